def zz_hoV (x0 x1 x2 x3 x4 x5 x6 x7 x8 x9 p : Int32) : Int32 := if p = 0 then x0 else if p = 1 then x1 else if p = 2 then x2 else if p = 3 then x3 else if p = 4 then x4 else if p = 5 then x5 else if p = 6 then x6 else if p = 7 then x7 else if p = 8 then x8 else if p = 9 then x9 else -1000000
theorem zz_hoV_0 {x0 x1 x2 x3 x4 x5 x6 x7 x8 x9 : Int32} : zz_hoV x0 x1 x2 x3 x4 x5 x6 x7 x8 x9 0 = x0 := by unfold zz_hoV; rw [if_pos rfl]
theorem zz_hoV_1 {x0 x1 x2 x3 x4 x5 x6 x7 x8 x9 : Int32} : zz_hoV x0 x1 x2 x3 x4 x5 x6 x7 x8 x9 1 = x1 := by unfold zz_hoV; rw [if_neg (by decide), if_pos rfl]
theorem zz_hoV_2 {x0 x1 x2 x3 x4 x5 x6 x7 x8 x9 : Int32} : zz_hoV x0 x1 x2 x3 x4 x5 x6 x7 x8 x9 2 = x2 := by unfold zz_hoV; rw [if_neg (by decide), if_neg (by decide), if_pos rfl]
theorem zz_hoV_3 {x0 x1 x2 x3 x4 x5 x6 x7 x8 x9 : Int32} : zz_hoV x0 x1 x2 x3 x4 x5 x6 x7 x8 x9 3 = x3 := by unfold zz_hoV; rw [if_neg (by decide), if_neg (by decide), if_neg (by decide), if_pos rfl]
theorem zz_hoV_4 {x0 x1 x2 x3 x4 x5 x6 x7 x8 x9 : Int32} : zz_hoV x0 x1 x2 x3 x4 x5 x6 x7 x8 x9 4 = x4 := by unfold zz_hoV; rw [if_neg (by decide), if_neg (by decide), if_neg (by decide), if_neg (by decide), if_pos rfl]
theorem zz_hoV_5 {x0 x1 x2 x3 x4 x5 x6 x7 x8 x9 : Int32} : zz_hoV x0 x1 x2 x3 x4 x5 x6 x7 x8 x9 5 = x5 := by unfold zz_hoV; rw [if_neg (by decide), if_neg (by decide), if_neg (by decide), if_neg (by decide), if_neg (by decide), if_pos rfl]
theorem zz_hoV_6 {x0 x1 x2 x3 x4 x5 x6 x7 x8 x9 : Int32} : zz_hoV x0 x1 x2 x3 x4 x5 x6 x7 x8 x9 6 = x6 := by unfold zz_hoV; rw [if_neg (by decide), if_neg (by decide), if_neg (by decide), if_neg (by decide), if_neg (by decide), if_neg (by decide), if_pos rfl]
theorem zz_hoV_7 {x0 x1 x2 x3 x4 x5 x6 x7 x8 x9 : Int32} : zz_hoV x0 x1 x2 x3 x4 x5 x6 x7 x8 x9 7 = x7 := by unfold zz_hoV; rw [if_neg (by decide), if_neg (by decide), if_neg (by decide), if_neg (by decide), if_neg (by decide), if_neg (by decide), if_neg (by decide), if_pos rfl]
theorem zz_hoV_8 {x0 x1 x2 x3 x4 x5 x6 x7 x8 x9 : Int32} : zz_hoV x0 x1 x2 x3 x4 x5 x6 x7 x8 x9 8 = x8 := by unfold zz_hoV; rw [if_neg (by decide), if_neg (by decide), if_neg (by decide), if_neg (by decide), if_neg (by decide), if_neg (by decide), if_neg (by decide), if_neg (by decide), if_pos rfl]
theorem zz_hoV_9 {x0 x1 x2 x3 x4 x5 x6 x7 x8 x9 : Int32} : zz_hoV x0 x1 x2 x3 x4 x5 x6 x7 x8 x9 9 = x9 := by unfold zz_hoV; rw [if_neg (by decide), if_neg (by decide), if_neg (by decide), if_neg (by decide), if_neg (by decide), if_neg (by decide), if_neg (by decide), if_neg (by decide), if_neg (by decide), if_pos rfl]
theorem zz_hoV_d {x0 x1 x2 x3 x4 x5 x6 x7 x8 x9 p : Int32} (h0 : ¬ p = 0) (h1 : ¬ p = 1) (h2 : ¬ p = 2) (h3 : ¬ p = 3) (h4 : ¬ p = 4) (h5 : ¬ p = 5) (h6 : ¬ p = 6) (h7 : ¬ p = 7) (h8 : ¬ p = 8) (h9 : ¬ p = 9) : zz_hoV x0 x1 x2 x3 x4 x5 x6 x7 x8 x9 p = -1000000 := by unfold zz_hoV; rw [if_neg h0, if_neg h1, if_neg h2, if_neg h3, if_neg h4, if_neg h5, if_neg h6, if_neg h7, if_neg h8, if_neg h9]
def zz_foV (x0 x1 x2 x3 x4 x5 x6 p : Int32) : Int32 := if p = 0 then x0 else if p = 1 then x1 else if p = 2 then x2 else if p = 3 then x3 else if p = 4 then x4 else if p = 5 then x5 else if p = 6 then x6 else -1
theorem zz_foV_0 {x0 x1 x2 x3 x4 x5 x6 : Int32} : zz_foV x0 x1 x2 x3 x4 x5 x6 0 = x0 := by unfold zz_foV; rw [if_pos rfl]
theorem zz_foV_1 {x0 x1 x2 x3 x4 x5 x6 : Int32} : zz_foV x0 x1 x2 x3 x4 x5 x6 1 = x1 := by unfold zz_foV; rw [if_neg (by decide), if_pos rfl]
theorem zz_foV_2 {x0 x1 x2 x3 x4 x5 x6 : Int32} : zz_foV x0 x1 x2 x3 x4 x5 x6 2 = x2 := by unfold zz_foV; rw [if_neg (by decide), if_neg (by decide), if_pos rfl]
theorem zz_foV_3 {x0 x1 x2 x3 x4 x5 x6 : Int32} : zz_foV x0 x1 x2 x3 x4 x5 x6 3 = x3 := by unfold zz_foV; rw [if_neg (by decide), if_neg (by decide), if_neg (by decide), if_pos rfl]
theorem zz_foV_4 {x0 x1 x2 x3 x4 x5 x6 : Int32} : zz_foV x0 x1 x2 x3 x4 x5 x6 4 = x4 := by unfold zz_foV; rw [if_neg (by decide), if_neg (by decide), if_neg (by decide), if_neg (by decide), if_pos rfl]
theorem zz_foV_5 {x0 x1 x2 x3 x4 x5 x6 : Int32} : zz_foV x0 x1 x2 x3 x4 x5 x6 5 = x5 := by unfold zz_foV; rw [if_neg (by decide), if_neg (by decide), if_neg (by decide), if_neg (by decide), if_neg (by decide), if_pos rfl]
theorem zz_foV_6 {x0 x1 x2 x3 x4 x5 x6 : Int32} : zz_foV x0 x1 x2 x3 x4 x5 x6 6 = x6 := by unfold zz_foV; rw [if_neg (by decide), if_neg (by decide), if_neg (by decide), if_neg (by decide), if_neg (by decide), if_neg (by decide), if_pos rfl]
theorem zz_foV_d {x0 x1 x2 x3 x4 x5 x6 p : Int32} (h0 : ¬ p = 0) (h1 : ¬ p = 1) (h2 : ¬ p = 2) (h3 : ¬ p = 3) (h4 : ¬ p = 4) (h5 : ¬ p = 5) (h6 : ¬ p = 6) : zz_foV x0 x1 x2 x3 x4 x5 x6 p = -1 := by unfold zz_foV; rw [if_neg h0, if_neg h1, if_neg h2, if_neg h3, if_neg h4, if_neg h5, if_neg h6]
def zz_abV (fl : Nat → Int32) (x0 x1 x2 x3 x4 x5 p : Int32) : Int32 := if p = 0 then x0 else if p = 1 then x1 else if p = 2 then x2 else if p = 3 then x3 else if p = 4 then x4 else if p = 5 then x5 else (if 20 ≤ p.toInt ∧ p.toInt ≤ 29 then fl (Int32.toNatClampNeg (p - 20)) else -1)
theorem zz_abV_0 {fl : Nat → Int32} {x0 x1 x2 x3 x4 x5 : Int32} : zz_abV fl x0 x1 x2 x3 x4 x5 0 = x0 := by unfold zz_abV; rw [if_pos rfl]
theorem zz_abV_1 {fl : Nat → Int32} {x0 x1 x2 x3 x4 x5 : Int32} : zz_abV fl x0 x1 x2 x3 x4 x5 1 = x1 := by unfold zz_abV; rw [if_neg (by decide), if_pos rfl]
theorem zz_abV_2 {fl : Nat → Int32} {x0 x1 x2 x3 x4 x5 : Int32} : zz_abV fl x0 x1 x2 x3 x4 x5 2 = x2 := by unfold zz_abV; rw [if_neg (by decide), if_neg (by decide), if_pos rfl]
theorem zz_abV_3 {fl : Nat → Int32} {x0 x1 x2 x3 x4 x5 : Int32} : zz_abV fl x0 x1 x2 x3 x4 x5 3 = x3 := by unfold zz_abV; rw [if_neg (by decide), if_neg (by decide), if_neg (by decide), if_pos rfl]
theorem zz_abV_4 {fl : Nat → Int32} {x0 x1 x2 x3 x4 x5 : Int32} : zz_abV fl x0 x1 x2 x3 x4 x5 4 = x4 := by unfold zz_abV; rw [if_neg (by decide), if_neg (by decide), if_neg (by decide), if_neg (by decide), if_pos rfl]
theorem zz_abV_5 {fl : Nat → Int32} {x0 x1 x2 x3 x4 x5 : Int32} : zz_abV fl x0 x1 x2 x3 x4 x5 5 = x5 := by unfold zz_abV; rw [if_neg (by decide), if_neg (by decide), if_neg (by decide), if_neg (by decide), if_neg (by decide), if_pos rfl]
theorem zz_abV_d {fl : Nat → Int32} {x0 x1 x2 x3 x4 x5 p : Int32} (h0 : ¬ p = 0) (h1 : ¬ p = 1) (h2 : ¬ p = 2) (h3 : ¬ p = 3) (h4 : ¬ p = 4) (h5 : ¬ p = 5) : zz_abV fl x0 x1 x2 x3 x4 x5 p = (if 20 ≤ p.toInt ∧ p.toInt ≤ 29 then fl (Int32.toNatClampNeg (p - 20)) else -1) := by unfold zz_abV; rw [if_neg h0, if_neg h1, if_neg h2, if_neg h3, if_neg h4, if_neg h5]
set_option maxHeartbeats 4000000 in
set_option maxRecDepth 100000 in
theorem kx_areTwo (l : Launch) (dC : Nat → ClassId) (dI : Nat → Nat → Nat) (a : Nat → Nat) (nh : Nat) (nf : Nat) (clk : Int32) (hi : Int32) (cH : ClassId) (fH : Nat → Option Nat) (p0 : Int32) (p1 : Int32) (sz : Nat) (hc8 : nh ≤ 8) (hf12 : nf ≤ 12) (hfH : ∀ k, k < 8 → fH k = some (a (2 + k))) : Met l yX7_areTwoHouses (zz_w yX7_areTwoHouses cX7_areTwoHouses 3 (some .boolean)) ({ frames := 2, cells := 0, slots := 0, locals := 43 }) (va_Pc [.ref (a 0), .int p0, .int p1] (zz_B (dC, dI) sz [(a 0, .inr (7, [.ref (a 1), .ref (a 10), .ref (a 23), .ref (a 24), .ref (a 26), .ref (a 29), .ref (a 34), .ref (a 43), .int (nI nh), .int (nI nf), .int clk, .int hi])), (a 1, .inl (cH, 8, .inr (.inr (.inr (.inr fH)))))] [(cH, .object RX4)])) (va_Qi (fun (r : Int32) (_ : Unit) => (r = 1 ∧ (¬ p0 = p1 ∧ (0 ≤ p0.toInt ∧ p0.toInt < (nh : Int)) ∧ (0 ≤ p1.toInt ∧ p1.toInt < (nh : Int)))) ∨ (r = 0 ∧ ¬ (¬ p0 = p1 ∧ (0 ≤ p0.toInt ∧ p0.toInt < (nh : Int)) ∧ (0 ≤ p1.toInt ∧ p1.toInt < (nh : Int))))) (fun _ _ => True) (va_A [] sz)) 0 0 (va_A [] sz) := by
  refine Met.ofW (cc := cX7_areTwoHouses) (maxL := 3) (ret := (some .boolean)) (by decide) rfl ?_
  intro p e s m args below meth c s₁ B hml hv
  obtain ⟨rfl, hsz, hP, hK, hD0, hN⟩ := hv
  have hx := B.exec
  have hb := B.bytes
  have hr := B.returns
  have hts := atoms_spec (ws := zz_w yX7_areTwoHouses cX7_areTwoHouses 3 (some .boolean)) B.pre
  have hw : ∀ w ∈ zz_all, w.before _ s = true := fun w h => hts w (List.mem_cons_of_mem _ h)
  have hown : s.vm.findClass RX7 = some m.cls := findClass_of_methodNamed B.named
  have hlocks := B.notSynchronized
  subst hsz
  have hD := hD0
  generalize hAe : va_A [] s.heap.size = A
  have hA : ∀ q : Nat, s.heap.size ≤ q → A q := fun q h => by rw [← hAe]; exact Or.inr h
  have hS : va_S A s.heap s.heap [] := va_S.rf
  have hP : va_P (dC, dI) vwCl [(a 0, .inr (7, [.ref (a 1), .ref (a 10), .ref (a 23), .ref (a 24), .ref (a 26), .ref (a 29), .ref (a 34), .ref (a 43), .int (nI nh), .int (nI nf), .int clk, .int hi])), (a 1, .inl (cH, 8, .inr (.inr (.inr (.inr fH)))))] s.heap := hP
  have hl := lv_entry ([.ref (a 0), .int p0, .int p1]) (n := 3) (Nat.le_of_ble_eq_true rfl)
  rw [lg_entry_eq]
  generalize (lg_sl ([.ref (a 0), .int p0, .int p1]) ++ List.replicate (3 - (lg_sl ([.ref (a 0), .int p0, .int p1])).length) Slot.unset).toArray = ls at hl ⊢
  have hl : lv_has ls 3 [(0, .ref (a 0)), (1, .int p0), (2, .int p1)] := hl
  refine lv_iload_n hx hb dX7_areTwoHouses_0 rfl (lv_at hl 1 rfl) ?_
  refine lv_iload_n hx hb dX7_areTwoHouses_1 rfl (lv_at hl 2 rfl) ?_
  refine lv_icmp_eq (tgt := 25) hx hb dX7_areTwoHouses_2 (by decide) (fun c_1 => ?_) (fun c_1 => ?_)
  · have zc_1 := c_1
    rw [← Int32.toInt_inj] at zc_1
    refine lv_iconst (v := 0) hx hb dX7_areTwoHouses_25 (by decide) ?_
    exact W.zret (v := 0) hx hb hr (rfl) (fun t ht hW => ⟨⟨0, (), rfl, (Or.inr ⟨rfl, fun h9 => h9.1 c_1⟩), trivial⟩, hS.F ht⟩) hS.2.2 dX7_areTwoHouses_26
  · have zc_1 := c_1
    rw [← Int32.toInt_inj] at zc_1
    refine lv_aload_n hx hb dX7_areTwoHouses_5 rfl (lv_at hl 0 rfl) ?_
    refine lv_iload_n hx hb dX7_areTwoHouses_6 rfl (lv_at hl 1 rfl) ?_
    obtain ⟨hPc, hDc⟩ := zz_sub2 (ws' := [(a 0, .inr (7, [.ref (a 1), .ref (a 10), .ref (a 23), .ref (a 24), .ref (a 26), .ref (a 29), .ref (a 34), .ref (a 43), .int (nI nh), .int (nI nf), .int clk, .int hi])), (a 1, .inl (cH, 8, .inr (.inr (.inr (.inr fH)))))]) hP hD [0, 1] (by decide) rfl
    have hKc := hK.sub (tys' := [(cH, .object RX4)]) [0] rfl
    have hFc := zz_free0 hS hA
    refine va_callq (va_runV (As := [.int p0]) (rest := []) ⟨hx, hb, hml, hown, hw⟩ (k_houseAt l dC dI a nh nf clk hi cH fH p0 s.heap.size (by omega) (by omega) hfH) ⟨callB_of 1 hw (zz_good tw_8) rfl rfl rfl (hw _ tw_2) (hw _ tw_9) (by decide +kernel) ⟨Nat.le_of_ble_eq_true rfl, Nat.le_of_ble_eq_true rfl⟩, (hw _ tw_10), (hw _ tw_11)⟩ ⟨zz_blind, va_recv hKc hPc (ci := 7) (q0 := 0) rfl rfl, zz_pre hPc hKc hDc hN⟩ rfl rfl hl.1 rfl (lv_room (Nat.le_of_ble_eq_true rfl)) dX7_areTwoHouses_7 ⟨Nat.le_of_ble_eq_true rfl, Nat.le_of_ble_eq_true rfl⟩) hS (fun q _ h => hFc q h) hFc (fun r_2 u_2 t H1 locs ht hvm e_2 hB hz1 hk1 hS => ?_)
    try dsimp only at e_2
    have hP := zz_keep hP hk1
    clear hk1 hB ht hvm
    generalize H1 = H at hP hS ⊢
    rcases e_2 with ⟨er_2, nk_2⟩ | ⟨er_2, nk_2⟩
    · refine zz_setv (.null) (congrArg va_rf er_2) ?_
      refine lv_ifnullN (tgt := 25) hx hb dX7_areTwoHouses_10 (by decide) ?_
      refine lv_iconst (v := 0) hx hb dX7_areTwoHouses_25 (by decide) ?_
      exact W.zret (v := 0) hx hb hr (rfl) (fun t ht hW => ⟨⟨0, (), rfl, (Or.inr ⟨rfl, fun h9 => nk_2 h9.2.1⟩), trivial⟩, hS.F ht⟩) hS.2.2 dX7_areTwoHouses_26
    · refine zz_setv (.ref (a (2 + (Int32.toNatClampNeg p0)))) (congrArg va_rf er_2) ?_
      refine lv_ifnull hx hb dX7_areTwoHouses_10 ?_
      refine lv_aload_n hx hb dX7_areTwoHouses_13 rfl (lv_at hl 0 rfl) ?_
      refine lv_iload_n hx hb dX7_areTwoHouses_14 rfl (lv_at hl 2 rfl) ?_
      obtain ⟨hPc, hDc⟩ := zz_sub2 (ws' := [(a 0, .inr (7, [.ref (a 1), .ref (a 10), .ref (a 23), .ref (a 24), .ref (a 26), .ref (a 29), .ref (a 34), .ref (a 43), .int (nI nh), .int (nI nf), .int clk, .int hi])), (a 1, .inl (cH, 8, .inr (.inr (.inr (.inr fH)))))]) hP hD [0, 1] (by decide) rfl
      have hKc := hK.sub (tys' := [(cH, .object RX4)]) [0] rfl
      have hFc := zz_free0 hS hA
      refine va_callq (va_runV (As := [.int p1]) (rest := []) ⟨hx, hb, hml, hown, hw⟩ (k_houseAt l dC dI a nh nf clk hi cH fH p1 H.size (by omega) (by omega) hfH) ⟨callB_of 1 hw (zz_good tw_8) rfl rfl rfl (hw _ tw_2) (hw _ tw_9) (by decide +kernel) ⟨Nat.le_of_ble_eq_true rfl, Nat.le_of_ble_eq_true rfl⟩, (hw _ tw_10), (hw _ tw_11)⟩ ⟨zz_blind, va_recv hKc hPc (ci := 7) (q0 := 0) rfl rfl, zz_pre hPc hKc hDc hN⟩ rfl rfl hl.1 rfl (lv_room (Nat.le_of_ble_eq_true rfl)) dX7_areTwoHouses_15 ⟨Nat.le_of_ble_eq_true rfl, Nat.le_of_ble_eq_true rfl⟩) hS (fun q _ h => hFc q h) hFc (fun r_3 u_3 t H1 locs ht hvm e_3 hB hz1 hk1 hS => ?_)
      try dsimp only at e_3
      have hP := zz_keep hP hk1
      clear hk1 hB ht hvm
      generalize H1 = H at hP hS ⊢
      rcases e_3 with ⟨er_3, nk_3⟩ | ⟨er_3, nk_3⟩
      · refine zz_setv (.null) (congrArg va_rf er_3) ?_
        refine lv_ifnullN (tgt := 25) hx hb dX7_areTwoHouses_18 (by decide) ?_
        refine lv_iconst (v := 0) hx hb dX7_areTwoHouses_25 (by decide) ?_
        exact W.zret (v := 0) hx hb hr (rfl) (fun t ht hW => ⟨⟨0, (), rfl, (Or.inr ⟨rfl, fun h9 => nk_3 h9.2.2⟩), trivial⟩, hS.F ht⟩) hS.2.2 dX7_areTwoHouses_26
      · refine zz_setv (.ref (a (2 + (Int32.toNatClampNeg p1)))) (congrArg va_rf er_3) ?_
        refine lv_ifnull hx hb dX7_areTwoHouses_18 ?_
        refine lv_iconst (v := 1) hx hb dX7_areTwoHouses_21 (by decide) ?_
        refine lv_goto (tgt := 26) hx hb dX7_areTwoHouses_22 (by decide) ?_
        exact W.zret (v := 1) hx hb hr (rfl) (fun t ht hW => ⟨⟨1, (), rfl, (Or.inl ⟨rfl, c_1, nk_2, nk_3⟩), trivial⟩, hS.F ht⟩) hS.2.2 dX7_areTwoHouses_26
set_option maxHeartbeats 4000000 in
set_option maxRecDepth 100000 in
theorem kx_owes (l : Launch) (dC : Nat → ClassId) (dI : Nat → Nat → Nat) (a : Nat → Nat) (nh : Nat) (nf : Nat) (clk : Int32) (hi : Int32) (cH : ClassId) (fH : Nat → Option Nat) (cI : ClassId) (nd : Nat) (fo : Nat → Int32) (fc : Nat → Int32) (fs : Nat → Int32) (fu : Nat → Int32) (p0 : Int32) (p1 : Int32) (sz : Nat) (hc8 : nh ≤ 8) (hf12 : nf ≤ 12) (hfH : ∀ k, k < 8 → fH k = some (a (2 + k))) (hnd : nd ≤ 300) : Met l yX7_owes (zz_w yX7_owes cX7_owes 3 (some .int)) ({ frames := 3, cells := 0, slots := 0, locals := 65 }) (va_Pc [.ref (a 0), .int p0, .int p1] (zz_B (dC, dI) sz [(a 0, .inr (7, [.ref (a 1), .ref (a 10), .ref (a 23), .ref (a 24), .ref (a 26), .ref (a 29), .ref (a 34), .ref (a 43), .int (nI nh), .int (nI nf), .int clk, .int hi])), (a 1, .inl (cH, 8, .inr (.inr (.inr (.inr fH))))), (a 29, .inr (1, [.ref (a 30), .ref (a 31), .ref (a 32), .ref (a 33), .int (nI nd)])), (a 30, .inl (cI, 300, .inl fo)), (a 31, .inl (cI, 300, .inl fc)), (a 32, .inl (cI, 300, .inl fs)), (a 33, .inl (cI, 300, .inl fu))] [(cH, .object RX4), (cI, .int)])) (va_Qi (fun (r : Int32) (_ : Unit) => ((¬ p0 = p1 ∧ (0 ≤ p0.toInt ∧ p0.toInt < (nh : Int)) ∧ (0 ≤ p1.toInt ∧ p1.toInt < (nh : Int))) ∧ r = zz_su fo fc fu p0 p1 nd) ∨ (¬ (¬ p0 = p1 ∧ (0 ≤ p0.toInt ∧ p0.toInt < (nh : Int)) ∧ (0 ≤ p1.toInt ∧ p1.toInt < (nh : Int))) ∧ r = -1)) (fun _ _ => True) (va_A [] sz)) 0 0 (va_A [] sz) := by
  refine Met.ofW (cc := cX7_owes) (maxL := 3) (ret := (some .int)) (by decide) rfl ?_
  intro p e s m args below meth c s₁ B hml hv
  obtain ⟨rfl, hsz, hP, hK, hD0, hN⟩ := hv
  have hx := B.exec
  have hb := B.bytes
  have hr := B.returns
  have hts := atoms_spec (ws := zz_w yX7_owes cX7_owes 3 (some .int)) B.pre
  have hw : ∀ w ∈ zz_all, w.before _ s = true := fun w h => hts w (List.mem_cons_of_mem _ h)
  have hown : s.vm.findClass RX7 = some m.cls := findClass_of_methodNamed B.named
  have hlocks := B.notSynchronized
  subst hsz
  have hD := hD0
  generalize hAe : va_A [] s.heap.size = A
  have hA : ∀ q : Nat, s.heap.size ≤ q → A q := fun q h => by rw [← hAe]; exact Or.inr h
  have hS : va_S A s.heap s.heap [] := va_S.rf
  have hP : va_P (dC, dI) vwCl [(a 0, .inr (7, [.ref (a 1), .ref (a 10), .ref (a 23), .ref (a 24), .ref (a 26), .ref (a 29), .ref (a 34), .ref (a 43), .int (nI nh), .int (nI nf), .int clk, .int hi])), (a 1, .inl (cH, 8, .inr (.inr (.inr (.inr fH))))), (a 29, .inr (1, [.ref (a 30), .ref (a 31), .ref (a 32), .ref (a 33), .int (nI nd)])), (a 30, .inl (cI, 300, .inl fo)), (a 31, .inl (cI, 300, .inl fc)), (a 32, .inl (cI, 300, .inl fs)), (a 33, .inl (cI, 300, .inl fu))] s.heap := hP
  have hl := lv_entry ([.ref (a 0), .int p0, .int p1]) (n := 3) (Nat.le_of_ble_eq_true rfl)
  rw [lg_entry_eq]
  generalize (lg_sl ([.ref (a 0), .int p0, .int p1]) ++ List.replicate (3 - (lg_sl ([.ref (a 0), .int p0, .int p1])).length) Slot.unset).toArray = ls at hl ⊢
  have hl : lv_has ls 3 [(0, .ref (a 0)), (1, .int p0), (2, .int p1)] := hl
  refine lv_aload_n hx hb dX7_owes_0 rfl (lv_at hl 0 rfl) ?_
  refine lv_iload_n hx hb dX7_owes_1 rfl (lv_at hl 1 rfl) ?_
  refine lv_iload_n hx hb dX7_owes_2 rfl (lv_at hl 2 rfl) ?_
  obtain ⟨hPc, hDc⟩ := zz_sub2 (ws' := [(a 0, .inr (7, [.ref (a 1), .ref (a 10), .ref (a 23), .ref (a 24), .ref (a 26), .ref (a 29), .ref (a 34), .ref (a 43), .int (nI nh), .int (nI nf), .int clk, .int hi])), (a 1, .inl (cH, 8, .inr (.inr (.inr (.inr fH)))))]) hP hD [0, 1] (by decide) rfl
  have hKc := hK.sub (tys' := [(cH, .object RX4)]) [0] rfl
  have hFc := zz_free0 hS hA
  refine va_calli (va_runV (As := [.int p0, .int p1]) (rest := []) ⟨hx, hb, hml, hown, hw⟩ (kx_areTwo l dC dI a nh nf clk hi cH fH p0 p1 s.heap.size (by omega) (by omega) hfH) ⟨callB_of 2 hw (zz_good tw_81) rfl rfl rfl (hw _ tw_2) (hw _ tw_82) (by decide +kernel) ⟨Nat.le_of_ble_eq_true rfl, Nat.le_of_ble_eq_true rfl⟩, (hw _ tw_83), (hw _ tw_84)⟩ ⟨zz_blind, va_recv hKc hPc (ci := 7) (q0 := 0) rfl rfl, zz_pre hPc hKc hDc hN⟩ rfl rfl hl.1 rfl (lv_room (Nat.le_of_ble_eq_true rfl)) dX7_owes_3 ⟨Nat.le_of_ble_eq_true rfl, Nat.le_of_ble_eq_true rfl⟩) hS (fun q _ h => hFc q h) hFc (fun r_1 u_1 t H1 locs ht hvm e_1 hB hz1 hk1 hS => ?_)
  try dsimp only at e_1
  have hP := zz_keep hP hk1
  clear hk1 hB ht hvm
  generalize H1 = H at hP hS ⊢
  rcases e_1 with ⟨er_1, tk_1⟩ | ⟨er_1, tk_1⟩
  · refine zz_seti 1 er_1 ?_
    refine lv_if_eq (tgt := 21) hx hb dX7_owes_6 (by decide) (fun c_9 => absurd c_9 (by decide)) (fun _ => ?_)
    refine lv_aload_n hx hb dX7_owes_9 rfl (lv_at hl 0 rfl) ?_
    refine va_get (D := (dC, dI)) (ci := 7) (v := .ref (a 29)) (C := RX7) (T := TX7) (N := 12) hx hb hw zz_inX7 hown hK hP 0 rfl rfl 5 (by decide) (hw _ tw_44) (fun _ h9 => h9) rfl dX7_owes_10 ?_
    refine lv_iload_n hx hb dX7_owes_13 rfl (lv_at hl 1 rfl) ?_
    refine lv_iload_n hx hb dX7_owes_14 rfl (lv_at hl 2 rfl) ?_
    obtain ⟨hPc, hDc⟩ := zz_sub2 (ws' := [(a 29, .inr (1, [.ref (a 30), .ref (a 31), .ref (a 32), .ref (a 33), .int (nI nd)])), (a 30, .inl (cI, 300, .inl fo)), (a 31, .inl (cI, 300, .inl fc)), (a 32, .inl (cI, 300, .inl fs)), (a 33, .inl (cI, 300, .inl fu))]) hP hD [2, 3, 4, 5, 6] (by decide) rfl
    have hKc := hK.sub (tys' := [(cI, .int)]) [1] rfl
    have hFc := zz_free0 hS hA
    refine va_calli (va_runVN (As := [.int p0, .int p1]) (rest := []) ⟨hx, hb, hml, hown, hw⟩ (kx_unitsOwed l dC dI a cI nd fo fc fs fu p0 p1 H.size (by omega)) ⟨va_cnB 2 hw (zz_good tw_85) rfl rfl rfl (hN.1 _ zz_n58) (hw _ tw_16) (by decide +kernel) ⟨Nat.le_of_ble_eq_true rfl, Nat.le_of_ble_eq_true rfl⟩, (hw _ tw_86), (hw _ tw_87)⟩ ⟨zz_blind, va_recv hKc hPc (ci := 1) (q0 := 0) rfl rfl, zz_pre hPc hKc hDc hN⟩ rfl rfl hl.1 rfl (lv_room (Nat.le_of_ble_eq_true rfl)) dX7_owes_15 ⟨Nat.le_of_ble_eq_true rfl, Nat.le_of_ble_eq_true rfl⟩) hS (fun q _ h => hFc q h) hFc (fun r_2 u_2 t H1 locs ht hvm e_2 hB hz1 hk1 hS => ?_)
    try dsimp only at e_2
    have hP := zz_keep hP hk1
    clear hk1 hB ht hvm
    generalize H1 = H at hP hS ⊢
    refine zz_seti (zz_su fo fc fu p0 p1 nd) e_2 ?_
    refine lv_goto (tgt := 22) hx hb dX7_owes_18 (by decide) ?_
    exact W.iret (v := (zz_su fo fc fu p0 p1 nd)) hx hb hr (fun t ht hW => ⟨⟨(zz_su fo fc fu p0 p1 nd), (), rfl, (Or.inl ⟨tk_1, rfl⟩), trivial⟩, hS.F ht⟩) hS.2.2 dX7_owes_22
  · refine zz_seti 0 er_1 ?_
    refine lv_if_eq (tgt := 21) hx hb dX7_owes_6 (by decide) (fun _ => ?_) (fun c_9 => absurd c_9 (by decide))
    refine lv_iconst (v := (-1)) hx hb dX7_owes_21 (by decide) ?_
    exact W.iret (v := (-1)) hx hb hr (fun t ht hW => ⟨⟨(-1), (), rfl, (Or.inr ⟨tk_1, rfl⟩), trivial⟩, hS.F ht⟩) hS.2.2 dX7_owes_22
set_option maxHeartbeats 4000000 in
set_option maxRecDepth 100000 in
theorem kx_oldest (l : Launch) (dC : Nat → ClassId) (dI : Nat → Nat → Nat) (a : Nat → Nat) (nh : Nat) (nf : Nat) (clk : Int32) (hi : Int32) (cH : ClassId) (fH : Nat → Option Nat) (cI : ClassId) (nd : Nat) (fo : Nat → Int32) (fc : Nat → Int32) (fs : Nat → Int32) (fu : Nat → Int32) (p0 : Int32) (p1 : Int32) (sz : Nat) (hc8 : nh ≤ 8) (hf12 : nf ≤ 12) (hfH : ∀ k, k < 8 → fH k = some (a (2 + k))) (hnd : nd ≤ 300) : Met l yX7_oldest (zz_w yX7_oldest cX7_oldest 3 (some .int)) ({ frames := 3, cells := 0, slots := 0, locals := 65 }) (va_Pc [.ref (a 0), .int p0, .int p1] (zz_B (dC, dI) sz [(a 0, .inr (7, [.ref (a 1), .ref (a 10), .ref (a 23), .ref (a 24), .ref (a 26), .ref (a 29), .ref (a 34), .ref (a 43), .int (nI nh), .int (nI nf), .int clk, .int hi])), (a 1, .inl (cH, 8, .inr (.inr (.inr (.inr fH))))), (a 29, .inr (1, [.ref (a 30), .ref (a 31), .ref (a 32), .ref (a 33), .int (nI nd)])), (a 30, .inl (cI, 300, .inl fo)), (a 31, .inl (cI, 300, .inl fc)), (a 32, .inl (cI, 300, .inl fs)), (a 33, .inl (cI, 300, .inl fu))] [(cH, .object RX4), (cI, .int)])) (va_Qi (fun (r : Int32) (_ : Unit) => ((¬ p0 = p1 ∧ (0 ≤ p0.toInt ∧ p0.toInt < (nh : Int)) ∧ (0 ≤ p1.toInt ∧ p1.toInt < (nh : Int))) ∧ zz_ft1 fo fc fs p0 p1 nd r) ∨ (¬ (¬ p0 = p1 ∧ (0 ≤ p0.toInt ∧ p0.toInt < (nh : Int)) ∧ (0 ≤ p1.toInt ∧ p1.toInt < (nh : Int))) ∧ r = -1)) (fun _ _ => True) (va_A [] sz)) 0 0 (va_A [] sz) := by
  refine Met.ofW (cc := cX7_oldest) (maxL := 3) (ret := (some .int)) (by decide) rfl ?_
  intro p e s m args below meth c s₁ B hml hv
  obtain ⟨rfl, hsz, hP, hK, hD0, hN⟩ := hv
  have hx := B.exec
  have hb := B.bytes
  have hr := B.returns
  have hts := atoms_spec (ws := zz_w yX7_oldest cX7_oldest 3 (some .int)) B.pre
  have hw : ∀ w ∈ zz_all, w.before _ s = true := fun w h => hts w (List.mem_cons_of_mem _ h)
  have hown : s.vm.findClass RX7 = some m.cls := findClass_of_methodNamed B.named
  have hlocks := B.notSynchronized
  subst hsz
  have hD := hD0
  generalize hAe : va_A [] s.heap.size = A
  have hA : ∀ q : Nat, s.heap.size ≤ q → A q := fun q h => by rw [← hAe]; exact Or.inr h
  have hS : va_S A s.heap s.heap [] := va_S.rf
  have hP : va_P (dC, dI) vwCl [(a 0, .inr (7, [.ref (a 1), .ref (a 10), .ref (a 23), .ref (a 24), .ref (a 26), .ref (a 29), .ref (a 34), .ref (a 43), .int (nI nh), .int (nI nf), .int clk, .int hi])), (a 1, .inl (cH, 8, .inr (.inr (.inr (.inr fH))))), (a 29, .inr (1, [.ref (a 30), .ref (a 31), .ref (a 32), .ref (a 33), .int (nI nd)])), (a 30, .inl (cI, 300, .inl fo)), (a 31, .inl (cI, 300, .inl fc)), (a 32, .inl (cI, 300, .inl fs)), (a 33, .inl (cI, 300, .inl fu))] s.heap := hP
  have hl := lv_entry ([.ref (a 0), .int p0, .int p1]) (n := 3) (Nat.le_of_ble_eq_true rfl)
  rw [lg_entry_eq]
  generalize (lg_sl ([.ref (a 0), .int p0, .int p1]) ++ List.replicate (3 - (lg_sl ([.ref (a 0), .int p0, .int p1])).length) Slot.unset).toArray = ls at hl ⊢
  have hl : lv_has ls 3 [(0, .ref (a 0)), (1, .int p0), (2, .int p1)] := hl
  refine lv_aload_n hx hb dX7_oldest_0 rfl (lv_at hl 0 rfl) ?_
  refine lv_iload_n hx hb dX7_oldest_1 rfl (lv_at hl 1 rfl) ?_
  refine lv_iload_n hx hb dX7_oldest_2 rfl (lv_at hl 2 rfl) ?_
  obtain ⟨hPc, hDc⟩ := zz_sub2 (ws' := [(a 0, .inr (7, [.ref (a 1), .ref (a 10), .ref (a 23), .ref (a 24), .ref (a 26), .ref (a 29), .ref (a 34), .ref (a 43), .int (nI nh), .int (nI nf), .int clk, .int hi])), (a 1, .inl (cH, 8, .inr (.inr (.inr (.inr fH)))))]) hP hD [0, 1] (by decide) rfl
  have hKc := hK.sub (tys' := [(cH, .object RX4)]) [0] rfl
  have hFc := zz_free0 hS hA
  refine va_calli (va_runV (As := [.int p0, .int p1]) (rest := []) ⟨hx, hb, hml, hown, hw⟩ (kx_areTwo l dC dI a nh nf clk hi cH fH p0 p1 s.heap.size (by omega) (by omega) hfH) ⟨callB_of 2 hw (zz_good tw_81) rfl rfl rfl (hw _ tw_2) (hw _ tw_82) (by decide +kernel) ⟨Nat.le_of_ble_eq_true rfl, Nat.le_of_ble_eq_true rfl⟩, (hw _ tw_83), (hw _ tw_84)⟩ ⟨zz_blind, va_recv hKc hPc (ci := 7) (q0 := 0) rfl rfl, zz_pre hPc hKc hDc hN⟩ rfl rfl hl.1 rfl (lv_room (Nat.le_of_ble_eq_true rfl)) dX7_oldest_3 ⟨Nat.le_of_ble_eq_true rfl, Nat.le_of_ble_eq_true rfl⟩) hS (fun q _ h => hFc q h) hFc (fun r_1 u_1 t H1 locs ht hvm e_1 hB hz1 hk1 hS => ?_)
  try dsimp only at e_1
  have hP := zz_keep hP hk1
  clear hk1 hB ht hvm
  generalize H1 = H at hP hS ⊢
  rcases e_1 with ⟨er_1, tk_1⟩ | ⟨er_1, tk_1⟩
  · refine zz_seti 1 er_1 ?_
    refine lv_if_eq (tgt := 21) hx hb dX7_oldest_6 (by decide) (fun c_9 => absurd c_9 (by decide)) (fun _ => ?_)
    refine lv_aload_n hx hb dX7_oldest_9 rfl (lv_at hl 0 rfl) ?_
    refine va_get (D := (dC, dI)) (ci := 7) (v := .ref (a 29)) (C := RX7) (T := TX7) (N := 12) hx hb hw zz_inX7 hown hK hP 0 rfl rfl 5 (by decide) (hw _ tw_44) (fun _ h9 => h9) rfl dX7_oldest_10 ?_
    refine lv_iload_n hx hb dX7_oldest_13 rfl (lv_at hl 1 rfl) ?_
    refine lv_iload_n hx hb dX7_oldest_14 rfl (lv_at hl 2 rfl) ?_
    obtain ⟨hPc, hDc⟩ := zz_sub2 (ws' := [(a 29, .inr (1, [.ref (a 30), .ref (a 31), .ref (a 32), .ref (a 33), .int (nI nd)])), (a 30, .inl (cI, 300, .inl fo)), (a 31, .inl (cI, 300, .inl fc)), (a 32, .inl (cI, 300, .inl fs)), (a 33, .inl (cI, 300, .inl fu))]) hP hD [2, 3, 4, 5, 6] (by decide) rfl
    have hKc := hK.sub (tys' := [(cI, .int)]) [1] rfl
    have hFc := zz_free0 hS hA
    refine va_calli (va_runVN (As := [.int p0, .int p1]) (rest := []) ⟨hx, hb, hml, hown, hw⟩ (kx_firstDay l dC dI a cI nd fo fc fs fu p0 p1 H.size (by omega)) ⟨va_cnB 2 hw (zz_good tw_88) rfl rfl rfl (hN.1 _ zz_n59) (hw _ tw_16) (by decide +kernel) ⟨Nat.le_of_ble_eq_true rfl, Nat.le_of_ble_eq_true rfl⟩, (hw _ tw_89), (hw _ tw_90)⟩ ⟨zz_blind, va_recv hKc hPc (ci := 1) (q0 := 0) rfl rfl, zz_pre hPc hKc hDc hN⟩ rfl rfl hl.1 rfl (lv_room (Nat.le_of_ble_eq_true rfl)) dX7_oldest_15 ⟨Nat.le_of_ble_eq_true rfl, Nat.le_of_ble_eq_true rfl⟩) hS (fun q _ h => hFc q h) hFc (fun r_2 u_2 t H1 locs ht hvm e_2 hB hz1 hk1 hS => ?_)
    try dsimp only at e_2
    have hP := zz_keep hP hk1
    clear hk1 hB ht hvm
    generalize H1 = H at hP hS ⊢
    refine lv_goto (tgt := 22) hx hb dX7_oldest_18 (by decide) ?_
    exact W.iret (v := r_2) hx hb hr (fun t ht hW => ⟨⟨r_2, (), rfl, (Or.inl ⟨tk_1, e_2⟩), trivial⟩, hS.F ht⟩) hS.2.2 dX7_oldest_22
  · refine zz_seti 0 er_1 ?_
    refine lv_if_eq (tgt := 21) hx hb dX7_oldest_6 (by decide) (fun _ => ?_) (fun c_9 => absurd c_9 (by decide))
    refine lv_iconst (v := (-1)) hx hb dX7_oldest_21 (by decide) ?_
    exact W.iret (v := (-1)) hx hb hr (fun t ht hW => ⟨⟨(-1), (), rfl, (Or.inr ⟨tk_1, rfl⟩), trivial⟩, hS.F ht⟩) hS.2.2 dX7_oldest_22
set_option maxHeartbeats 4000000 in
set_option maxRecDepth 100000 in
theorem kx_houseOf (l : Launch) (dC : Nat → ClassId) (dI : Nat → Nat → Nat) (a : Nat → Nat) (nh : Nat) (nf : Nat) (clk : Int32) (hi : Int32) (cH : ClassId) (fH : Nat → Option Nat) (cI : ClassId) (nd : Nat) (fo : Nat → Int32) (fc : Nat → Int32) (fs : Nat → Int32) (fu : Nat → Int32) (V : Nat → Nat → Int32) (vh0 : Nat → Int32) (vh1 : Nat → Int32) (vh2 : Nat → Int32) (vh3 : Nat → Int32) (vh4 : Nat → Int32) (vh5 : Nat → Int32) (vh6 : Nat → Int32) (vh7 : Nat → Int32) (vh8 : Nat → Int32) (vf0 : Nat → Int32) (vf1 : Nat → Int32) (vf2 : Nat → Int32) (vf3 : Nat → Int32) (vf4 : Nat → Int32) (vf5 : Nat → Int32) (vf6 : Nat → Int32) (p0 : Int32) (p1 : Int32) (L : List Nat) (K : Nat → Nat) (sz : Nat) (hc8 : nh ≤ 8) (hf12 : nf ≤ 12) (hfH : ∀ k, k < 8 → fH k = some (a (2 + k))) (hH : ∀ k, k < 8 → a (2 + k) ∈ L ∧ K (a (2 + k)) = 4) (hR : zz_RV a V vh0 vh1 vh2 vh3 vh4 vh5 vh6 vh7 vh8 vf0 vf1 vf2 vf3 vf4 vf5 vf6) (hnd : nd ≤ 300) (hoc : zz_oc fo fc nd) : Met l yX7_houseOf (zz_w yX7_houseOf cX7_houseOf 4 (some .int)) ({ frames := 2, cells := 0, slots := 0, locals := 43 }) (va_Pc [.ref (a 0), .int p0, .int p1] (zz_B (dC, dI) sz (([(a 0, .inr (7, [.ref (a 1), .ref (a 10), .ref (a 23), .ref (a 24), .ref (a 26), .ref (a 29), .ref (a 34), .ref (a 43), .int (nI nh), .int (nI nf), .int clk, .int hi])), (a 1, .inl (cH, 8, .inr (.inr (.inr (.inr fH))))), (a 29, .inr (1, [.ref (a 30), .ref (a 31), .ref (a 32), .ref (a 33), .int (nI nd)])), (a 30, .inl (cI, 300, .inl fo)), (a 31, .inl (cI, 300, .inl fc)), (a 32, .inl (cI, 300, .inl fs)), (a 33, .inl (cI, 300, .inl fu))] : va_W) ++ va_pl L (zz_F K V)) [(cH, .object RX4), (cI, .int)])) (va_Qi (fun (r : Int32) (_ : Unit) => ((0 ≤ p0.toInt ∧ p0.toInt < (nh : Int)) ∧ r = (zz_hoV (vh0 (Int32.toNatClampNeg p0)) (if vh1 (Int32.toNatClampNeg p0) = 0 then 0 else 1) (vh2 (Int32.toNatClampNeg p0)) (zz_fr vh2 vh0 vh3 (Int32.toNatClampNeg p0)) (zz_nc fo fc fu p0 nd) (vh4 (Int32.toNatClampNeg p0)) (vh5 (Int32.toNatClampNeg p0)) (vh6 (Int32.toNatClampNeg p0)) (vh7 (Int32.toNatClampNeg p0)) (vh8 (Int32.toNatClampNeg p0)) p1)) ∨ (¬ (0 ≤ p0.toInt ∧ p0.toInt < (nh : Int)) ∧ r = -1000000)) (fun _ _ => True) (va_A [] sz)) 0 0 (va_A [] sz) := by
  refine Met.ofW (cc := cX7_houseOf) (maxL := 4) (ret := (some .int)) (by decide) rfl ?_
  intro p e s m args below meth c s₁ B hml hv
  obtain ⟨rfl, hsz, hP, hK, hD0, hN⟩ := hv
  have hx := B.exec
  have hb := B.bytes
  have hr := B.returns
  have hts := atoms_spec (ws := zz_w yX7_houseOf cX7_houseOf 4 (some .int)) B.pre
  have hw : ∀ w ∈ zz_all, w.before _ s = true := fun w h => hts w (List.mem_cons_of_mem _ h)
  have hown : s.vm.findClass RX7 = some m.cls := findClass_of_methodNamed B.named
  have hlocks := B.notSynchronized
  subst hsz
  have hD := hD0
  generalize hAe : va_A [] s.heap.size = A
  have hA : ∀ q : Nat, s.heap.size ≤ q → A q := fun q h => by rw [← hAe]; exact Or.inr h
  have hS : va_S A s.heap s.heap [] := va_S.rf
  have hP : va_P (dC, dI) vwCl (([(a 0, .inr (7, [.ref (a 1), .ref (a 10), .ref (a 23), .ref (a 24), .ref (a 26), .ref (a 29), .ref (a 34), .ref (a 43), .int (nI nh), .int (nI nf), .int clk, .int hi])), (a 1, .inl (cH, 8, .inr (.inr (.inr (.inr fH))))), (a 29, .inr (1, [.ref (a 30), .ref (a 31), .ref (a 32), .ref (a 33), .int (nI nd)])), (a 30, .inl (cI, 300, .inl fo)), (a 31, .inl (cI, 300, .inl fc)), (a 32, .inl (cI, 300, .inl fs)), (a 33, .inl (cI, 300, .inl fu))] : va_W) ++ va_pl L (zz_F K V)) s.heap := hP
  have hl := lv_entry ([.ref (a 0), .int p0, .int p1]) (n := 4) (Nat.le_of_ble_eq_true rfl)
  rw [lg_entry_eq]
  generalize (lg_sl ([.ref (a 0), .int p0, .int p1]) ++ List.replicate (4 - (lg_sl ([.ref (a 0), .int p0, .int p1])).length) Slot.unset).toArray = ls at hl ⊢
  have hl : lv_has ls 4 [(0, .ref (a 0)), (1, .int p0), (2, .int p1)] := hl
  refine lv_aload_n hx hb dX7_houseOf_0 rfl (lv_at hl 0 rfl) ?_
  refine lv_iload_n hx hb dX7_houseOf_1 rfl (lv_at hl 1 rfl) ?_
  obtain ⟨hPc, hDc⟩ := zz_sub2 (ws' := [(a 0, .inr (7, [.ref (a 1), .ref (a 10), .ref (a 23), .ref (a 24), .ref (a 26), .ref (a 29), .ref (a 34), .ref (a 43), .int (nI nh), .int (nI nf), .int clk, .int hi])), (a 1, .inl (cH, 8, .inr (.inr (.inr (.inr fH)))))]) hP hD [0, 1] (by decide) rfl
  have hKc := hK.sub (tys' := [(cH, .object RX4)]) [0] rfl
  have hFc := zz_free0 hS hA
  refine va_callq (va_runV (As := [.int p0]) (rest := []) ⟨hx, hb, hml, hown, hw⟩ (k_houseAt l dC dI a nh nf clk hi cH fH p0 s.heap.size (by omega) (by omega) hfH) ⟨callB_of 1 hw (zz_good tw_8) rfl rfl rfl (hw _ tw_2) (hw _ tw_9) (by decide +kernel) ⟨Nat.le_of_ble_eq_true rfl, Nat.le_of_ble_eq_true rfl⟩, (hw _ tw_10), (hw _ tw_11)⟩ ⟨zz_blind, va_recv hKc hPc (ci := 7) (q0 := 0) rfl rfl, zz_pre hPc hKc hDc hN⟩ rfl rfl hl.1 rfl (lv_room (Nat.le_of_ble_eq_true rfl)) dX7_houseOf_2 ⟨Nat.le_of_ble_eq_true rfl, Nat.le_of_ble_eq_true rfl⟩) hS (fun q _ h => hFc q h) hFc (fun r_1 u_1 t H1 locs ht hvm e_1 hB hz1 hk1 hS => ?_)
  try dsimp only at e_1
  have hP := zz_keep hP hk1
  clear hk1 hB ht hvm
  generalize H1 = H at hP hS ⊢
  rcases e_1 with ⟨er_1, nk_1⟩ | ⟨er_1, nk_1⟩
  · refine zz_setv (.null) (congrArg va_rf er_1) ?_
    refine lv_astore_nN (lv' := [(3, .null), (0, .ref (a 0)), (1, .int p0), (2, .int p1)]) hx hb dX7_houseOf_5 rfl hl (by decide) rfl (fun ls hl => ?_)
    refine lv_aload_nN hx hb dX7_houseOf_6 rfl (lv_at hl 0 rfl) ?_
    refine lv_ifnonnullN hx hb dX7_houseOf_7 ?_
    refine lv_ldc (v := (-1000000)) hx hb hown (hw _ tw_91) dX7_houseOf_10 ?_
    exact W.iret (v := (-1000000)) hx hb hr (fun t ht hW => ⟨⟨(-1000000), (), rfl, (Or.inr ⟨by omega, rfl⟩), trivial⟩, hS.F ht⟩) hS.2.2 dX7_houseOf_12
  · refine zz_setv (.ref (a (2 + (Int32.toNatClampNeg p0)))) (congrArg va_rf er_1) ?_
    refine lv_astore_n (lv' := [(3, .ref (a (2 + (Int32.toNatClampNeg p0)))), (0, .ref (a 0)), (1, .int p0), (2, .int p1)]) hx hb dX7_houseOf_5 rfl hl (by decide) rfl (fun ls hl => ?_)
    refine lv_aload_n hx hb dX7_houseOf_6 rfl (lv_at hl 0 rfl) ?_
    refine lv_ifnonnull (tgt := 13) hx hb dX7_houseOf_7 (by decide) ?_
    refine lv_iload_n hx hb dX7_houseOf_13 rfl (lv_at hl 3 rfl) ?_
    by_cases c_2 : p1 = 0
    · have zc_2 := c_2
      rw [← Int32.toInt_inj] at zc_2
      try rw [show (0 : Int32).toInt = 0 from by decide] at zc_2
      refine lv_tableIn (tgt := 68) hx hb dX7_houseOf_14 (by rw [c_2]; decide) (by rw [c_2]; decide) (by rw [c_2]; rfl) (by decide) ?_
      refine lv_aload_n hx hb dX7_houseOf_68 rfl (lv_at hl 0 rfl) ?_
      obtain ⟨kq_3, hq_3⟩ := zz_pg4 (X := [(a 0, .inr (7, [.ref (a 1), .ref (a 10), .ref (a 23), .ref (a 24), .ref (a 26), .ref (a 29), .ref (a 34), .ref (a 43), .int (nI nh), .int (nI nf), .int clk, .int hi])), (a 1, .inl (cH, 8, .inr (.inr (.inr (.inr fH))))), (a 29, .inr (1, [.ref (a 30), .ref (a 31), .ref (a 32), .ref (a 33), .int (nI nd)])), (a 30, .inl (cI, 300, .inl fo)), (a 31, .inl (cI, 300, .inl fc)), (a 32, .inl (cI, 300, .inl fs)), (a 33, .inl (cI, 300, .inl fu))]) (V := V) (hH (Int32.toNatClampNeg p0) (zz_lt nk_1 hc8 (by omega))).1 (hH (Int32.toNatClampNeg p0) (zz_lt nk_1 hc8 (by omega))).2
      have hDo := hD
      refine va_getN (D := (dC, dI)) (ci := 4) (v := .int (V (a (2 + (Int32.toNatClampNeg p0))) 0)) (C := RX4) (T := TX4) (N := 9) hx hb hw zz_inX4 hown hK hP kq_3 hq_3 rfl 0 (by decide) (hN.use zz_n1) (fun _ h9 => h9) rfl dX7_houseOf_69 ?_
      refine zz_seti (vh0 (Int32.toNatClampNeg p0)) (zz_RVg4_0 hR (zz_lt nk_1 hc8 (by omega))) ?_
      exact W.iret (v := (vh0 (Int32.toNatClampNeg p0))) hx hb hr (fun t ht hW => ⟨⟨(vh0 (Int32.toNatClampNeg p0)), (), rfl, (Or.inl ⟨by omega, (by rw [c_2, zz_hoV_0])⟩), trivial⟩, hS.F ht⟩) hS.2.2 dX7_houseOf_72
    by_cases c_4 : p1 = 1
    · have zc_4 := c_4
      rw [← Int32.toInt_inj] at zc_4
      try rw [show (1 : Int32).toInt = 1 from by decide] at zc_4
      refine lv_tableIn (tgt := 73) hx hb dX7_houseOf_14 (by rw [c_4]; decide) (by rw [c_4]; decide) (by rw [c_4]; rfl) (by decide) ?_
      refine lv_aload_n hx hb dX7_houseOf_73 rfl (lv_at hl 0 rfl) ?_
      obtain ⟨kq_5, hq_5⟩ := zz_pg4 (X := [(a 0, .inr (7, [.ref (a 1), .ref (a 10), .ref (a 23), .ref (a 24), .ref (a 26), .ref (a 29), .ref (a 34), .ref (a 43), .int (nI nh), .int (nI nf), .int clk, .int hi])), (a 1, .inl (cH, 8, .inr (.inr (.inr (.inr fH))))), (a 29, .inr (1, [.ref (a 30), .ref (a 31), .ref (a 32), .ref (a 33), .int (nI nd)])), (a 30, .inl (cI, 300, .inl fo)), (a 31, .inl (cI, 300, .inl fc)), (a 32, .inl (cI, 300, .inl fs)), (a 33, .inl (cI, 300, .inl fu))]) (V := V) (hH (Int32.toNatClampNeg p0) (zz_lt nk_1 hc8 (by omega))).1 (hH (Int32.toNatClampNeg p0) (zz_lt nk_1 hc8 (by omega))).2
      have hDo := hD
      refine va_getN (D := (dC, dI)) (ci := 4) (v := .int (V (a (2 + (Int32.toNatClampNeg p0))) 1)) (C := RX4) (T := TX4) (N := 9) hx hb hw zz_inX4 hown hK hP kq_5 hq_5 rfl 1 (by decide) (hN.use zz_n2) (fun _ h9 => h9) rfl dX7_houseOf_74 ?_
      refine zz_seti (vh1 (Int32.toNatClampNeg p0)) (zz_RVg4_1 hR (zz_lt nk_1 hc8 (by omega))) ?_
      refine lv_if_eq (tgt := 84) hx hb dX7_houseOf_77 (by decide) (fun c_6 => ?_) (fun c_6 => ?_)
      · have zc_6 := c_6
        rw [← Int32.toInt_inj] at zc_6
        try rw [show (0 : Int32).toInt = 0 from by decide] at zc_6
        refine lv_iconst (v := 0) hx hb dX7_houseOf_84 (by decide) ?_
        exact W.iret (v := 0) hx hb hr (fun t ht hW => ⟨⟨0, (), rfl, (Or.inl ⟨by omega, (by rw [c_4, zz_hoV_1, if_pos c_6])⟩), trivial⟩, hS.F ht⟩) hS.2.2 dX7_houseOf_85
      · have zc_6 := c_6
        rw [← Int32.toInt_inj] at zc_6
        try rw [show (0 : Int32).toInt = 0 from by decide] at zc_6
        refine lv_iconst (v := 1) hx hb dX7_houseOf_80 (by decide) ?_
        refine lv_goto (tgt := 85) hx hb dX7_houseOf_81 (by decide) ?_
        exact W.iret (v := 1) hx hb hr (fun t ht hW => ⟨⟨1, (), rfl, (Or.inl ⟨by omega, (by rw [c_4, zz_hoV_1, if_neg c_6])⟩), trivial⟩, hS.F ht⟩) hS.2.2 dX7_houseOf_85
    by_cases c_7 : p1 = 2
    · have zc_7 := c_7
      rw [← Int32.toInt_inj] at zc_7
      try rw [show (2 : Int32).toInt = 2 from by decide] at zc_7
      refine lv_tableIn (tgt := 86) hx hb dX7_houseOf_14 (by rw [c_7]; decide) (by rw [c_7]; decide) (by rw [c_7]; rfl) (by decide) ?_
      refine lv_aload_n hx hb dX7_houseOf_86 rfl (lv_at hl 0 rfl) ?_
      obtain ⟨kq_8, hq_8⟩ := zz_pg4 (X := [(a 0, .inr (7, [.ref (a 1), .ref (a 10), .ref (a 23), .ref (a 24), .ref (a 26), .ref (a 29), .ref (a 34), .ref (a 43), .int (nI nh), .int (nI nf), .int clk, .int hi])), (a 1, .inl (cH, 8, .inr (.inr (.inr (.inr fH))))), (a 29, .inr (1, [.ref (a 30), .ref (a 31), .ref (a 32), .ref (a 33), .int (nI nd)])), (a 30, .inl (cI, 300, .inl fo)), (a 31, .inl (cI, 300, .inl fc)), (a 32, .inl (cI, 300, .inl fs)), (a 33, .inl (cI, 300, .inl fu))]) (V := V) (hH (Int32.toNatClampNeg p0) (zz_lt nk_1 hc8 (by omega))).1 (hH (Int32.toNatClampNeg p0) (zz_lt nk_1 hc8 (by omega))).2
      have hDo := hD
      refine va_getN (D := (dC, dI)) (ci := 4) (v := .int (V (a (2 + (Int32.toNatClampNeg p0))) 2)) (C := RX4) (T := TX4) (N := 9) hx hb hw zz_inX4 hown hK hP kq_8 hq_8 rfl 2 (by decide) (hN.use zz_n3) (fun _ h9 => h9) rfl dX7_houseOf_87 ?_
      refine zz_seti (vh2 (Int32.toNatClampNeg p0)) (zz_RVg4_2 hR (zz_lt nk_1 hc8 (by omega))) ?_
      exact W.iret (v := (vh2 (Int32.toNatClampNeg p0))) hx hb hr (fun t ht hW => ⟨⟨(vh2 (Int32.toNatClampNeg p0)), (), rfl, (Or.inl ⟨by omega, (by rw [c_7, zz_hoV_2])⟩), trivial⟩, hS.F ht⟩) hS.2.2 dX7_houseOf_90
    by_cases c_9 : p1 = 3
    · have zc_9 := c_9
      rw [← Int32.toInt_inj] at zc_9
      try rw [show (3 : Int32).toInt = 3 from by decide] at zc_9
      refine lv_tableIn (tgt := 91) hx hb dX7_houseOf_14 (by rw [c_9]; decide) (by rw [c_9]; decide) (by rw [c_9]; rfl) (by decide) ?_
      refine lv_aload_n hx hb dX7_houseOf_91 rfl (lv_at hl 0 rfl) ?_
      obtain ⟨hPc, hDc⟩ := zz_part2 (cx := []) hP hD [] (by decide) rfl
      have hKc := hK.sub (tys' := []) [] rfl
      have hFc := zz_free0 hS hA
      obtain ⟨kr_10, hr_10⟩ := zz_pg4 (X := []) (V := V) (hH (Int32.toNatClampNeg p0) (zz_lt nk_1 hc8 (by omega))).1 (hH (Int32.toNatClampNeg p0) (zz_lt nk_1 hc8 (by omega))).2
      refine va_calli (va_runVN (As := []) (rest := []) ⟨hx, hb, hml, hown, hw⟩ (kx_freeHands l dC dI a V vh0 vh1 vh2 vh3 vh4 vh5 vh6 vh7 vh8 vf0 vf1 vf2 vf3 vf4 vf5 vf6 (Int32.toNatClampNeg p0) L K H.size hH (zz_lt nk_1 hc8 (by omega)) hR) ⟨va_cnB 0 hw (zz_good tw_60) rfl rfl rfl (hN.1 _ zz_n53) (hw _ tw_61) (by decide +kernel) ⟨Nat.le_of_ble_eq_true rfl, Nat.le_of_ble_eq_true rfl⟩, (hw _ tw_62), (hw _ tw_63)⟩ ⟨zz_blind, va_recv hKc hPc (ci := 4) (q0 := kr_10) rfl hr_10, zz_pre hPc hKc hDc hN⟩ rfl rfl hl.1 rfl (lv_room (Nat.le_of_ble_eq_true rfl)) dX7_houseOf_92 ⟨Nat.le_of_ble_eq_true rfl, Nat.le_of_ble_eq_true rfl⟩) hS (fun q _ h => hFc q h) hFc (fun r_10 u_10 t H1 locs ht hvm e_10 hB hz1 hk1 hS => ?_)
      try dsimp only at e_10
      have hP := zz_keep hP hk1
      clear hk1 hB ht hvm
      generalize H1 = H at hP hS ⊢
      refine zz_seti (zz_fr vh2 vh0 vh3 (Int32.toNatClampNeg p0)) e_10 ?_
      exact W.iret (v := (zz_fr vh2 vh0 vh3 (Int32.toNatClampNeg p0))) hx hb hr (fun t ht hW => ⟨⟨(zz_fr vh2 vh0 vh3 (Int32.toNatClampNeg p0)), (), rfl, (Or.inl ⟨by omega, (by rw [c_9, zz_hoV_3])⟩), trivial⟩, hS.F ht⟩) hS.2.2 dX7_houseOf_95
    by_cases c_11 : p1 = 4
    · have zc_11 := c_11
      rw [← Int32.toInt_inj] at zc_11
      try rw [show (4 : Int32).toInt = 4 from by decide] at zc_11
      refine lv_tableIn (tgt := 96) hx hb dX7_houseOf_14 (by rw [c_11]; decide) (by rw [c_11]; decide) (by rw [c_11]; rfl) (by decide) ?_
      refine lv_aload_n hx hb dX7_houseOf_96 rfl (lv_at hl 1 rfl) ?_
      refine va_get (D := (dC, dI)) (ci := 7) (v := .ref (a 29)) (C := RX7) (T := TX7) (N := 12) hx hb hw zz_inX7 hown hK hP 0 rfl rfl 5 (by decide) (hw _ tw_44) (fun _ h9 => h9) rfl dX7_houseOf_97 ?_
      refine lv_iload_n hx hb dX7_houseOf_100 rfl (lv_at hl 2 rfl) ?_
      obtain ⟨hPc, hDc⟩ := zz_sub2 (ws' := [(a 29, .inr (1, [.ref (a 30), .ref (a 31), .ref (a 32), .ref (a 33), .int (nI nd)])), (a 30, .inl (cI, 300, .inl fo)), (a 31, .inl (cI, 300, .inl fc)), (a 32, .inl (cI, 300, .inl fs)), (a 33, .inl (cI, 300, .inl fu))]) hP hD [2, 3, 4, 5, 6] (by decide) rfl
      have hKc := hK.sub (tys' := [(cI, .int)]) [1] rfl
      have hFc := zz_free0 hS hA
      refine va_calli (va_runVN (As := [.int p0]) (rest := []) ⟨hx, hb, hml, hown, hw⟩ (kx_net l dC dI a cI nd fo fc fs fu p0 H.size (by omega) hoc) ⟨va_cnB 1 hw (zz_good tw_92) rfl rfl rfl (hN.1 _ zz_n57) (hw _ tw_16) (by decide +kernel) ⟨Nat.le_of_ble_eq_true rfl, Nat.le_of_ble_eq_true rfl⟩, (hw _ tw_93), (hw _ tw_94)⟩ ⟨zz_blind, va_recv hKc hPc (ci := 1) (q0 := 0) rfl rfl, zz_pre hPc hKc hDc hN⟩ rfl rfl hl.1 rfl (lv_room (Nat.le_of_ble_eq_true rfl)) dX7_houseOf_101 ⟨Nat.le_of_ble_eq_true rfl, Nat.le_of_ble_eq_true rfl⟩) hS (fun q _ h => hFc q h) hFc (fun r_12 u_12 t H1 locs ht hvm e_12 hB hz1 hk1 hS => ?_)
      try dsimp only at e_12
      have hP := zz_keep hP hk1
      clear hk1 hB ht hvm
      generalize H1 = H at hP hS ⊢
      refine zz_seti (zz_nc fo fc fu p0 nd) e_12 ?_
      exact W.iret (v := (zz_nc fo fc fu p0 nd)) hx hb hr (fun t ht hW => ⟨⟨(zz_nc fo fc fu p0 nd), (), rfl, (Or.inl ⟨by omega, (by rw [c_11, zz_hoV_4])⟩), trivial⟩, hS.F ht⟩) hS.2.2 dX7_houseOf_104
    by_cases c_13 : p1 = 5
    · have zc_13 := c_13
      rw [← Int32.toInt_inj] at zc_13
      try rw [show (5 : Int32).toInt = 5 from by decide] at zc_13
      refine lv_tableIn (tgt := 105) hx hb dX7_houseOf_14 (by rw [c_13]; decide) (by rw [c_13]; decide) (by rw [c_13]; rfl) (by decide) ?_
      refine lv_aload_n hx hb dX7_houseOf_105 rfl (lv_at hl 0 rfl) ?_
      obtain ⟨kq_14, hq_14⟩ := zz_pg4 (X := [(a 0, .inr (7, [.ref (a 1), .ref (a 10), .ref (a 23), .ref (a 24), .ref (a 26), .ref (a 29), .ref (a 34), .ref (a 43), .int (nI nh), .int (nI nf), .int clk, .int hi])), (a 1, .inl (cH, 8, .inr (.inr (.inr (.inr fH))))), (a 29, .inr (1, [.ref (a 30), .ref (a 31), .ref (a 32), .ref (a 33), .int (nI nd)])), (a 30, .inl (cI, 300, .inl fo)), (a 31, .inl (cI, 300, .inl fc)), (a 32, .inl (cI, 300, .inl fs)), (a 33, .inl (cI, 300, .inl fu))]) (V := V) (hH (Int32.toNatClampNeg p0) (zz_lt nk_1 hc8 (by omega))).1 (hH (Int32.toNatClampNeg p0) (zz_lt nk_1 hc8 (by omega))).2
      have hDo := hD
      refine va_getN (D := (dC, dI)) (ci := 4) (v := .int (V (a (2 + (Int32.toNatClampNeg p0))) 4)) (C := RX4) (T := TX4) (N := 9) hx hb hw zz_inX4 hown hK hP kq_14 hq_14 rfl 4 (by decide) (hN.use zz_n5) (fun _ h9 => h9) rfl dX7_houseOf_106 ?_
      refine zz_seti (vh4 (Int32.toNatClampNeg p0)) (zz_RVg4_4 hR (zz_lt nk_1 hc8 (by omega))) ?_
      exact W.iret (v := (vh4 (Int32.toNatClampNeg p0))) hx hb hr (fun t ht hW => ⟨⟨(vh4 (Int32.toNatClampNeg p0)), (), rfl, (Or.inl ⟨by omega, (by rw [c_13, zz_hoV_5])⟩), trivial⟩, hS.F ht⟩) hS.2.2 dX7_houseOf_109
    by_cases c_15 : p1 = 6
    · have zc_15 := c_15
      rw [← Int32.toInt_inj] at zc_15
      try rw [show (6 : Int32).toInt = 6 from by decide] at zc_15
      refine lv_tableIn (tgt := 110) hx hb dX7_houseOf_14 (by rw [c_15]; decide) (by rw [c_15]; decide) (by rw [c_15]; rfl) (by decide) ?_
      refine lv_aload_n hx hb dX7_houseOf_110 rfl (lv_at hl 0 rfl) ?_
      obtain ⟨kq_16, hq_16⟩ := zz_pg4 (X := [(a 0, .inr (7, [.ref (a 1), .ref (a 10), .ref (a 23), .ref (a 24), .ref (a 26), .ref (a 29), .ref (a 34), .ref (a 43), .int (nI nh), .int (nI nf), .int clk, .int hi])), (a 1, .inl (cH, 8, .inr (.inr (.inr (.inr fH))))), (a 29, .inr (1, [.ref (a 30), .ref (a 31), .ref (a 32), .ref (a 33), .int (nI nd)])), (a 30, .inl (cI, 300, .inl fo)), (a 31, .inl (cI, 300, .inl fc)), (a 32, .inl (cI, 300, .inl fs)), (a 33, .inl (cI, 300, .inl fu))]) (V := V) (hH (Int32.toNatClampNeg p0) (zz_lt nk_1 hc8 (by omega))).1 (hH (Int32.toNatClampNeg p0) (zz_lt nk_1 hc8 (by omega))).2
      have hDo := hD
      refine va_getN (D := (dC, dI)) (ci := 4) (v := .int (V (a (2 + (Int32.toNatClampNeg p0))) 5)) (C := RX4) (T := TX4) (N := 9) hx hb hw zz_inX4 hown hK hP kq_16 hq_16 rfl 5 (by decide) (hN.use zz_n6) (fun _ h9 => h9) rfl dX7_houseOf_111 ?_
      refine zz_seti (vh5 (Int32.toNatClampNeg p0)) (zz_RVg4_5 hR (zz_lt nk_1 hc8 (by omega))) ?_
      exact W.iret (v := (vh5 (Int32.toNatClampNeg p0))) hx hb hr (fun t ht hW => ⟨⟨(vh5 (Int32.toNatClampNeg p0)), (), rfl, (Or.inl ⟨by omega, (by rw [c_15, zz_hoV_6])⟩), trivial⟩, hS.F ht⟩) hS.2.2 dX7_houseOf_114
    by_cases c_17 : p1 = 7
    · have zc_17 := c_17
      rw [← Int32.toInt_inj] at zc_17
      try rw [show (7 : Int32).toInt = 7 from by decide] at zc_17
      refine lv_tableIn (tgt := 115) hx hb dX7_houseOf_14 (by rw [c_17]; decide) (by rw [c_17]; decide) (by rw [c_17]; rfl) (by decide) ?_
      refine lv_aload_n hx hb dX7_houseOf_115 rfl (lv_at hl 0 rfl) ?_
      obtain ⟨kq_18, hq_18⟩ := zz_pg4 (X := [(a 0, .inr (7, [.ref (a 1), .ref (a 10), .ref (a 23), .ref (a 24), .ref (a 26), .ref (a 29), .ref (a 34), .ref (a 43), .int (nI nh), .int (nI nf), .int clk, .int hi])), (a 1, .inl (cH, 8, .inr (.inr (.inr (.inr fH))))), (a 29, .inr (1, [.ref (a 30), .ref (a 31), .ref (a 32), .ref (a 33), .int (nI nd)])), (a 30, .inl (cI, 300, .inl fo)), (a 31, .inl (cI, 300, .inl fc)), (a 32, .inl (cI, 300, .inl fs)), (a 33, .inl (cI, 300, .inl fu))]) (V := V) (hH (Int32.toNatClampNeg p0) (zz_lt nk_1 hc8 (by omega))).1 (hH (Int32.toNatClampNeg p0) (zz_lt nk_1 hc8 (by omega))).2
      have hDo := hD
      refine va_getN (D := (dC, dI)) (ci := 4) (v := .int (V (a (2 + (Int32.toNatClampNeg p0))) 6)) (C := RX4) (T := TX4) (N := 9) hx hb hw zz_inX4 hown hK hP kq_18 hq_18 rfl 6 (by decide) (hN.use zz_n7) (fun _ h9 => h9) rfl dX7_houseOf_116 ?_
      refine zz_seti (vh6 (Int32.toNatClampNeg p0)) (zz_RVg4_6 hR (zz_lt nk_1 hc8 (by omega))) ?_
      exact W.iret (v := (vh6 (Int32.toNatClampNeg p0))) hx hb hr (fun t ht hW => ⟨⟨(vh6 (Int32.toNatClampNeg p0)), (), rfl, (Or.inl ⟨by omega, (by rw [c_17, zz_hoV_7])⟩), trivial⟩, hS.F ht⟩) hS.2.2 dX7_houseOf_119
    by_cases c_19 : p1 = 8
    · have zc_19 := c_19
      rw [← Int32.toInt_inj] at zc_19
      try rw [show (8 : Int32).toInt = 8 from by decide] at zc_19
      refine lv_tableIn (tgt := 120) hx hb dX7_houseOf_14 (by rw [c_19]; decide) (by rw [c_19]; decide) (by rw [c_19]; rfl) (by decide) ?_
      refine lv_aload_n hx hb dX7_houseOf_120 rfl (lv_at hl 0 rfl) ?_
      obtain ⟨kq_20, hq_20⟩ := zz_pg4 (X := [(a 0, .inr (7, [.ref (a 1), .ref (a 10), .ref (a 23), .ref (a 24), .ref (a 26), .ref (a 29), .ref (a 34), .ref (a 43), .int (nI nh), .int (nI nf), .int clk, .int hi])), (a 1, .inl (cH, 8, .inr (.inr (.inr (.inr fH))))), (a 29, .inr (1, [.ref (a 30), .ref (a 31), .ref (a 32), .ref (a 33), .int (nI nd)])), (a 30, .inl (cI, 300, .inl fo)), (a 31, .inl (cI, 300, .inl fc)), (a 32, .inl (cI, 300, .inl fs)), (a 33, .inl (cI, 300, .inl fu))]) (V := V) (hH (Int32.toNatClampNeg p0) (zz_lt nk_1 hc8 (by omega))).1 (hH (Int32.toNatClampNeg p0) (zz_lt nk_1 hc8 (by omega))).2
      have hDo := hD
      refine va_getN (D := (dC, dI)) (ci := 4) (v := .int (V (a (2 + (Int32.toNatClampNeg p0))) 7)) (C := RX4) (T := TX4) (N := 9) hx hb hw zz_inX4 hown hK hP kq_20 hq_20 rfl 7 (by decide) (hN.use zz_n8) (fun _ h9 => h9) rfl dX7_houseOf_121 ?_
      refine zz_seti (vh7 (Int32.toNatClampNeg p0)) (zz_RVg4_7 hR (zz_lt nk_1 hc8 (by omega))) ?_
      exact W.iret (v := (vh7 (Int32.toNatClampNeg p0))) hx hb hr (fun t ht hW => ⟨⟨(vh7 (Int32.toNatClampNeg p0)), (), rfl, (Or.inl ⟨by omega, (by rw [c_19, zz_hoV_8])⟩), trivial⟩, hS.F ht⟩) hS.2.2 dX7_houseOf_124
    by_cases c_21 : p1 = 9
    · have zc_21 := c_21
      rw [← Int32.toInt_inj] at zc_21
      try rw [show (9 : Int32).toInt = 9 from by decide] at zc_21
      refine lv_tableIn (tgt := 125) hx hb dX7_houseOf_14 (by rw [c_21]; decide) (by rw [c_21]; decide) (by rw [c_21]; rfl) (by decide) ?_
      refine lv_aload_n hx hb dX7_houseOf_125 rfl (lv_at hl 0 rfl) ?_
      obtain ⟨kq_22, hq_22⟩ := zz_pg4 (X := [(a 0, .inr (7, [.ref (a 1), .ref (a 10), .ref (a 23), .ref (a 24), .ref (a 26), .ref (a 29), .ref (a 34), .ref (a 43), .int (nI nh), .int (nI nf), .int clk, .int hi])), (a 1, .inl (cH, 8, .inr (.inr (.inr (.inr fH))))), (a 29, .inr (1, [.ref (a 30), .ref (a 31), .ref (a 32), .ref (a 33), .int (nI nd)])), (a 30, .inl (cI, 300, .inl fo)), (a 31, .inl (cI, 300, .inl fc)), (a 32, .inl (cI, 300, .inl fs)), (a 33, .inl (cI, 300, .inl fu))]) (V := V) (hH (Int32.toNatClampNeg p0) (zz_lt nk_1 hc8 (by omega))).1 (hH (Int32.toNatClampNeg p0) (zz_lt nk_1 hc8 (by omega))).2
      have hDo := hD
      refine va_getN (D := (dC, dI)) (ci := 4) (v := .int (V (a (2 + (Int32.toNatClampNeg p0))) 8)) (C := RX4) (T := TX4) (N := 9) hx hb hw zz_inX4 hown hK hP kq_22 hq_22 rfl 8 (by decide) (hN.use zz_n9) (fun _ h9 => h9) rfl dX7_houseOf_126 ?_
      refine zz_seti (vh8 (Int32.toNatClampNeg p0)) (zz_RVg4_8 hR (zz_lt nk_1 hc8 (by omega))) ?_
      exact W.iret (v := (vh8 (Int32.toNatClampNeg p0))) hx hb hr (fun t ht hW => ⟨⟨(vh8 (Int32.toNatClampNeg p0)), (), rfl, (Or.inl ⟨by omega, (by rw [c_21, zz_hoV_9])⟩), trivial⟩, hS.F ht⟩) hS.2.2 dX7_houseOf_129
    refine lv_tableOut (tgt := 130) hx hb dX7_houseOf_14 (by have := zz_ne c_2; rw [show (0 : Int32).toInt = 0 from by decide] at this; have := zz_ne c_4; rw [show (1 : Int32).toInt = 1 from by decide] at this; have := zz_ne c_7; rw [show (2 : Int32).toInt = 2 from by decide] at this; have := zz_ne c_9; rw [show (3 : Int32).toInt = 3 from by decide] at this; have := zz_ne c_11; rw [show (4 : Int32).toInt = 4 from by decide] at this; have := zz_ne c_13; rw [show (5 : Int32).toInt = 5 from by decide] at this; have := zz_ne c_15; rw [show (6 : Int32).toInt = 6 from by decide] at this; have := zz_ne c_17; rw [show (7 : Int32).toInt = 7 from by decide] at this; have := zz_ne c_19; rw [show (8 : Int32).toInt = 8 from by decide] at this; have := zz_ne c_21; rw [show (9 : Int32).toInt = 9 from by decide] at this; omega) (by decide) ?_
    have zc_2 := c_2
    rw [← Int32.toInt_inj] at zc_2
    try rw [show (0 : Int32).toInt = 0 from by decide] at zc_2
    have zc_4 := c_4
    rw [← Int32.toInt_inj] at zc_4
    try rw [show (1 : Int32).toInt = 1 from by decide] at zc_4
    have zc_7 := c_7
    rw [← Int32.toInt_inj] at zc_7
    try rw [show (2 : Int32).toInt = 2 from by decide] at zc_7
    have zc_9 := c_9
    rw [← Int32.toInt_inj] at zc_9
    try rw [show (3 : Int32).toInt = 3 from by decide] at zc_9
    have zc_11 := c_11
    rw [← Int32.toInt_inj] at zc_11
    try rw [show (4 : Int32).toInt = 4 from by decide] at zc_11
    have zc_13 := c_13
    rw [← Int32.toInt_inj] at zc_13
    try rw [show (5 : Int32).toInt = 5 from by decide] at zc_13
    have zc_15 := c_15
    rw [← Int32.toInt_inj] at zc_15
    try rw [show (6 : Int32).toInt = 6 from by decide] at zc_15
    have zc_17 := c_17
    rw [← Int32.toInt_inj] at zc_17
    try rw [show (7 : Int32).toInt = 7 from by decide] at zc_17
    have zc_19 := c_19
    rw [← Int32.toInt_inj] at zc_19
    try rw [show (8 : Int32).toInt = 8 from by decide] at zc_19
    have zc_21 := c_21
    rw [← Int32.toInt_inj] at zc_21
    try rw [show (9 : Int32).toInt = 9 from by decide] at zc_21
    refine lv_ldc (v := (-1000000)) hx hb hown (hw _ tw_91) dX7_houseOf_130 ?_
    exact W.iret (v := (-1000000)) hx hb hr (fun t ht hW => ⟨⟨(-1000000), (), rfl, (Or.inl ⟨by omega, (zz_hoV_d c_2 c_4 c_7 c_9 c_11 c_13 c_15 c_17 c_19 c_21).symm⟩), trivial⟩, hS.F ht⟩) hS.2.2 dX7_houseOf_132
set_option maxHeartbeats 4000000 in
set_option maxRecDepth 100000 in
theorem kx_fieldOf (l : Launch) (dC : Nat → ClassId) (dI : Nat → Nat → Nat) (a : Nat → Nat) (nh : Nat) (nf : Nat) (clk : Int32) (hi : Int32) (cF : ClassId) (fF : Nat → Option Nat) (V : Nat → Nat → Int32) (vh0 : Nat → Int32) (vh1 : Nat → Int32) (vh2 : Nat → Int32) (vh3 : Nat → Int32) (vh4 : Nat → Int32) (vh5 : Nat → Int32) (vh6 : Nat → Int32) (vh7 : Nat → Int32) (vh8 : Nat → Int32) (vf0 : Nat → Int32) (vf1 : Nat → Int32) (vf2 : Nat → Int32) (vf3 : Nat → Int32) (vf4 : Nat → Int32) (vf5 : Nat → Int32) (vf6 : Nat → Int32) (p0 : Int32) (p1 : Int32) (L : List Nat) (K : Nat → Nat) (sz : Nat) (hc8 : nh ≤ 8) (hf12 : nf ≤ 12) (hfF : ∀ k, k < 12 → fF k = some (a (11 + k))) (hF : ∀ k, k < 12 → a (11 + k) ∈ L ∧ K (a (11 + k)) = 3) (hR : zz_RV a V vh0 vh1 vh2 vh3 vh4 vh5 vh6 vh7 vh8 vf0 vf1 vf2 vf3 vf4 vf5 vf6) : Met l yX7_fieldOf (zz_w yX7_fieldOf cX7_fieldOf 4 (some .int)) ({ frames := 2, cells := 0, slots := 0, locals := 43 }) (va_Pc [.ref (a 0), .int p0, .int p1] (zz_B (dC, dI) sz (([(a 0, .inr (7, [.ref (a 1), .ref (a 10), .ref (a 23), .ref (a 24), .ref (a 26), .ref (a 29), .ref (a 34), .ref (a 43), .int (nI nh), .int (nI nf), .int clk, .int hi])), (a 10, .inl (cF, 12, .inr (.inr (.inr (.inr fF)))))] : va_W) ++ va_pl L (zz_F K V)) [(cF, .object RX3)])) (va_Qi (fun (r : Int32) (_ : Unit) => ((0 ≤ p0.toInt ∧ p0.toInt < (nf : Int)) ∧ r = (zz_foV (vf0 (Int32.toNatClampNeg p0)) (vf1 (Int32.toNatClampNeg p0)) (vf2 (Int32.toNatClampNeg p0)) (vf3 (Int32.toNatClampNeg p0)) (vf4 (Int32.toNatClampNeg p0)) (vf5 (Int32.toNatClampNeg p0)) (vf6 (Int32.toNatClampNeg p0)) p1)) ∨ (¬ (0 ≤ p0.toInt ∧ p0.toInt < (nf : Int)) ∧ r = -1)) (fun _ _ => True) (va_A [] sz)) 0 0 (va_A [] sz) := by
  refine Met.ofW (cc := cX7_fieldOf) (maxL := 4) (ret := (some .int)) (by decide) rfl ?_
  intro p e s m args below meth c s₁ B hml hv
  obtain ⟨rfl, hsz, hP, hK, hD0, hN⟩ := hv
  have hx := B.exec
  have hb := B.bytes
  have hr := B.returns
  have hts := atoms_spec (ws := zz_w yX7_fieldOf cX7_fieldOf 4 (some .int)) B.pre
  have hw : ∀ w ∈ zz_all, w.before _ s = true := fun w h => hts w (List.mem_cons_of_mem _ h)
  have hown : s.vm.findClass RX7 = some m.cls := findClass_of_methodNamed B.named
  have hlocks := B.notSynchronized
  subst hsz
  have hD := hD0
  generalize hAe : va_A [] s.heap.size = A
  have hA : ∀ q : Nat, s.heap.size ≤ q → A q := fun q h => by rw [← hAe]; exact Or.inr h
  have hS : va_S A s.heap s.heap [] := va_S.rf
  have hP : va_P (dC, dI) vwCl (([(a 0, .inr (7, [.ref (a 1), .ref (a 10), .ref (a 23), .ref (a 24), .ref (a 26), .ref (a 29), .ref (a 34), .ref (a 43), .int (nI nh), .int (nI nf), .int clk, .int hi])), (a 10, .inl (cF, 12, .inr (.inr (.inr (.inr fF)))))] : va_W) ++ va_pl L (zz_F K V)) s.heap := hP
  have hl := lv_entry ([.ref (a 0), .int p0, .int p1]) (n := 4) (Nat.le_of_ble_eq_true rfl)
  rw [lg_entry_eq]
  generalize (lg_sl ([.ref (a 0), .int p0, .int p1]) ++ List.replicate (4 - (lg_sl ([.ref (a 0), .int p0, .int p1])).length) Slot.unset).toArray = ls at hl ⊢
  have hl : lv_has ls 4 [(0, .ref (a 0)), (1, .int p0), (2, .int p1)] := hl
  refine lv_aload_n hx hb dX7_fieldOf_0 rfl (lv_at hl 0 rfl) ?_
  refine lv_iload_n hx hb dX7_fieldOf_1 rfl (lv_at hl 1 rfl) ?_
  obtain ⟨hPc, hDc⟩ := zz_sub2 (ws' := [(a 0, .inr (7, [.ref (a 1), .ref (a 10), .ref (a 23), .ref (a 24), .ref (a 26), .ref (a 29), .ref (a 34), .ref (a 43), .int (nI nh), .int (nI nf), .int clk, .int hi])), (a 10, .inl (cF, 12, .inr (.inr (.inr (.inr fF)))))]) hP hD [0, 1] (by decide) rfl
  have hKc := hK.sub (tys' := [(cF, .object RX3)]) [0] rfl
  have hFc := zz_free0 hS hA
  refine va_callq (va_runV (As := [.int p0]) (rest := []) ⟨hx, hb, hml, hown, hw⟩ (k_fieldAt l dC dI a nh nf clk hi cF fF p0 s.heap.size (by omega) (by omega) hfF) ⟨callB_of 1 hw (zz_good tw_52) rfl rfl rfl (hw _ tw_2) (hw _ tw_53) (by decide +kernel) ⟨Nat.le_of_ble_eq_true rfl, Nat.le_of_ble_eq_true rfl⟩, (hw _ tw_54), (hw _ tw_55)⟩ ⟨zz_blind, va_recv hKc hPc (ci := 7) (q0 := 0) rfl rfl, zz_pre hPc hKc hDc hN⟩ rfl rfl hl.1 rfl (lv_room (Nat.le_of_ble_eq_true rfl)) dX7_fieldOf_2 ⟨Nat.le_of_ble_eq_true rfl, Nat.le_of_ble_eq_true rfl⟩) hS (fun q _ h => hFc q h) hFc (fun r_1 u_1 t H1 locs ht hvm e_1 hB hz1 hk1 hS => ?_)
  try dsimp only at e_1
  have hP := zz_keep hP hk1
  clear hk1 hB ht hvm
  generalize H1 = H at hP hS ⊢
  rcases e_1 with ⟨er_1, nk_1⟩ | ⟨er_1, nk_1⟩
  · refine zz_setv (.null) (congrArg va_rf er_1) ?_
    refine lv_astore_nN (lv' := [(3, .null), (0, .ref (a 0)), (1, .int p0), (2, .int p1)]) hx hb dX7_fieldOf_5 rfl hl (by decide) rfl (fun ls hl => ?_)
    refine lv_aload_nN hx hb dX7_fieldOf_6 rfl (lv_at hl 0 rfl) ?_
    refine lv_ifnonnullN hx hb dX7_fieldOf_7 ?_
    refine lv_iconst (v := (-1)) hx hb dX7_fieldOf_10 (by decide) ?_
    exact W.iret (v := (-1)) hx hb hr (fun t ht hW => ⟨⟨(-1), (), rfl, (Or.inr ⟨by omega, rfl⟩), trivial⟩, hS.F ht⟩) hS.2.2 dX7_fieldOf_11
  · refine zz_setv (.ref (a (11 + (Int32.toNatClampNeg p0)))) (congrArg va_rf er_1) ?_
    refine lv_astore_n (lv' := [(3, .ref (a (11 + (Int32.toNatClampNeg p0)))), (0, .ref (a 0)), (1, .int p0), (2, .int p1)]) hx hb dX7_fieldOf_5 rfl hl (by decide) rfl (fun ls hl => ?_)
    refine lv_aload_n hx hb dX7_fieldOf_6 rfl (lv_at hl 0 rfl) ?_
    refine lv_ifnonnull (tgt := 12) hx hb dX7_fieldOf_7 (by decide) ?_
    refine lv_iload_n hx hb dX7_fieldOf_12 rfl (lv_at hl 3 rfl) ?_
    by_cases c_2 : p1 = 0
    · have zc_2 := c_2
      rw [← Int32.toInt_inj] at zc_2
      try rw [show (0 : Int32).toInt = 0 from by decide] at zc_2
      refine lv_tableIn (tgt := 56) hx hb dX7_fieldOf_13 (by rw [c_2]; decide) (by rw [c_2]; decide) (by rw [c_2]; rfl) (by decide) ?_
      refine lv_aload_n hx hb dX7_fieldOf_56 rfl (lv_at hl 0 rfl) ?_
      obtain ⟨kq_3, hq_3⟩ := zz_pg3 (X := [(a 0, .inr (7, [.ref (a 1), .ref (a 10), .ref (a 23), .ref (a 24), .ref (a 26), .ref (a 29), .ref (a 34), .ref (a 43), .int (nI nh), .int (nI nf), .int clk, .int hi])), (a 10, .inl (cF, 12, .inr (.inr (.inr (.inr fF)))))]) (V := V) (hF (Int32.toNatClampNeg p0) (zz_lt nk_1 hf12 (by omega))).1 (hF (Int32.toNatClampNeg p0) (zz_lt nk_1 hf12 (by omega))).2
      have hDo := hD
      refine va_getN (D := (dC, dI)) (ci := 3) (v := .int (V (a (11 + (Int32.toNatClampNeg p0))) 0)) (C := RX3) (T := TX3) (N := 7) hx hb hw zz_inX3 hown hK hP kq_3 hq_3 rfl 0 (by decide) (hN.use zz_n11) (fun _ h9 => h9) rfl dX7_fieldOf_57 ?_
      refine zz_seti (vf0 (Int32.toNatClampNeg p0)) (zz_RVg3_0 hR (zz_lt nk_1 hf12 (by omega))) ?_
      exact W.iret (v := (vf0 (Int32.toNatClampNeg p0))) hx hb hr (fun t ht hW => ⟨⟨(vf0 (Int32.toNatClampNeg p0)), (), rfl, (Or.inl ⟨by omega, (by rw [c_2, zz_foV_0])⟩), trivial⟩, hS.F ht⟩) hS.2.2 dX7_fieldOf_60
    by_cases c_4 : p1 = 1
    · have zc_4 := c_4
      rw [← Int32.toInt_inj] at zc_4
      try rw [show (1 : Int32).toInt = 1 from by decide] at zc_4
      refine lv_tableIn (tgt := 61) hx hb dX7_fieldOf_13 (by rw [c_4]; decide) (by rw [c_4]; decide) (by rw [c_4]; rfl) (by decide) ?_
      refine lv_aload_n hx hb dX7_fieldOf_61 rfl (lv_at hl 0 rfl) ?_
      obtain ⟨kq_5, hq_5⟩ := zz_pg3 (X := [(a 0, .inr (7, [.ref (a 1), .ref (a 10), .ref (a 23), .ref (a 24), .ref (a 26), .ref (a 29), .ref (a 34), .ref (a 43), .int (nI nh), .int (nI nf), .int clk, .int hi])), (a 10, .inl (cF, 12, .inr (.inr (.inr (.inr fF)))))]) (V := V) (hF (Int32.toNatClampNeg p0) (zz_lt nk_1 hf12 (by omega))).1 (hF (Int32.toNatClampNeg p0) (zz_lt nk_1 hf12 (by omega))).2
      have hDo := hD
      refine va_getN (D := (dC, dI)) (ci := 3) (v := .int (V (a (11 + (Int32.toNatClampNeg p0))) 1)) (C := RX3) (T := TX3) (N := 7) hx hb hw zz_inX3 hown hK hP kq_5 hq_5 rfl 1 (by decide) (hN.use zz_n12) (fun _ h9 => h9) rfl dX7_fieldOf_62 ?_
      refine zz_seti (vf1 (Int32.toNatClampNeg p0)) (zz_RVg3_1 hR (zz_lt nk_1 hf12 (by omega))) ?_
      exact W.iret (v := (vf1 (Int32.toNatClampNeg p0))) hx hb hr (fun t ht hW => ⟨⟨(vf1 (Int32.toNatClampNeg p0)), (), rfl, (Or.inl ⟨by omega, (by rw [c_4, zz_foV_1])⟩), trivial⟩, hS.F ht⟩) hS.2.2 dX7_fieldOf_65
    by_cases c_6 : p1 = 2
    · have zc_6 := c_6
      rw [← Int32.toInt_inj] at zc_6
      try rw [show (2 : Int32).toInt = 2 from by decide] at zc_6
      refine lv_tableIn (tgt := 66) hx hb dX7_fieldOf_13 (by rw [c_6]; decide) (by rw [c_6]; decide) (by rw [c_6]; rfl) (by decide) ?_
      refine lv_aload_n hx hb dX7_fieldOf_66 rfl (lv_at hl 0 rfl) ?_
      obtain ⟨kq_7, hq_7⟩ := zz_pg3 (X := [(a 0, .inr (7, [.ref (a 1), .ref (a 10), .ref (a 23), .ref (a 24), .ref (a 26), .ref (a 29), .ref (a 34), .ref (a 43), .int (nI nh), .int (nI nf), .int clk, .int hi])), (a 10, .inl (cF, 12, .inr (.inr (.inr (.inr fF)))))]) (V := V) (hF (Int32.toNatClampNeg p0) (zz_lt nk_1 hf12 (by omega))).1 (hF (Int32.toNatClampNeg p0) (zz_lt nk_1 hf12 (by omega))).2
      have hDo := hD
      refine va_getN (D := (dC, dI)) (ci := 3) (v := .int (V (a (11 + (Int32.toNatClampNeg p0))) 2)) (C := RX3) (T := TX3) (N := 7) hx hb hw zz_inX3 hown hK hP kq_7 hq_7 rfl 2 (by decide) (hN.use zz_n13) (fun _ h9 => h9) rfl dX7_fieldOf_67 ?_
      refine zz_seti (vf2 (Int32.toNatClampNeg p0)) (zz_RVg3_2 hR (zz_lt nk_1 hf12 (by omega))) ?_
      exact W.iret (v := (vf2 (Int32.toNatClampNeg p0))) hx hb hr (fun t ht hW => ⟨⟨(vf2 (Int32.toNatClampNeg p0)), (), rfl, (Or.inl ⟨by omega, (by rw [c_6, zz_foV_2])⟩), trivial⟩, hS.F ht⟩) hS.2.2 dX7_fieldOf_70
    by_cases c_8 : p1 = 3
    · have zc_8 := c_8
      rw [← Int32.toInt_inj] at zc_8
      try rw [show (3 : Int32).toInt = 3 from by decide] at zc_8
      refine lv_tableIn (tgt := 71) hx hb dX7_fieldOf_13 (by rw [c_8]; decide) (by rw [c_8]; decide) (by rw [c_8]; rfl) (by decide) ?_
      refine lv_aload_n hx hb dX7_fieldOf_71 rfl (lv_at hl 0 rfl) ?_
      obtain ⟨kq_9, hq_9⟩ := zz_pg3 (X := [(a 0, .inr (7, [.ref (a 1), .ref (a 10), .ref (a 23), .ref (a 24), .ref (a 26), .ref (a 29), .ref (a 34), .ref (a 43), .int (nI nh), .int (nI nf), .int clk, .int hi])), (a 10, .inl (cF, 12, .inr (.inr (.inr (.inr fF)))))]) (V := V) (hF (Int32.toNatClampNeg p0) (zz_lt nk_1 hf12 (by omega))).1 (hF (Int32.toNatClampNeg p0) (zz_lt nk_1 hf12 (by omega))).2
      have hDo := hD
      refine va_getN (D := (dC, dI)) (ci := 3) (v := .int (V (a (11 + (Int32.toNatClampNeg p0))) 3)) (C := RX3) (T := TX3) (N := 7) hx hb hw zz_inX3 hown hK hP kq_9 hq_9 rfl 3 (by decide) (hN.use zz_n16) (fun _ h9 => h9) rfl dX7_fieldOf_72 ?_
      refine zz_seti (vf3 (Int32.toNatClampNeg p0)) (zz_RVg3_3 hR (zz_lt nk_1 hf12 (by omega))) ?_
      exact W.iret (v := (vf3 (Int32.toNatClampNeg p0))) hx hb hr (fun t ht hW => ⟨⟨(vf3 (Int32.toNatClampNeg p0)), (), rfl, (Or.inl ⟨by omega, (by rw [c_8, zz_foV_3])⟩), trivial⟩, hS.F ht⟩) hS.2.2 dX7_fieldOf_75
    by_cases c_10 : p1 = 4
    · have zc_10 := c_10
      rw [← Int32.toInt_inj] at zc_10
      try rw [show (4 : Int32).toInt = 4 from by decide] at zc_10
      refine lv_tableIn (tgt := 76) hx hb dX7_fieldOf_13 (by rw [c_10]; decide) (by rw [c_10]; decide) (by rw [c_10]; rfl) (by decide) ?_
      refine lv_aload_n hx hb dX7_fieldOf_76 rfl (lv_at hl 0 rfl) ?_
      obtain ⟨kq_11, hq_11⟩ := zz_pg3 (X := [(a 0, .inr (7, [.ref (a 1), .ref (a 10), .ref (a 23), .ref (a 24), .ref (a 26), .ref (a 29), .ref (a 34), .ref (a 43), .int (nI nh), .int (nI nf), .int clk, .int hi])), (a 10, .inl (cF, 12, .inr (.inr (.inr (.inr fF)))))]) (V := V) (hF (Int32.toNatClampNeg p0) (zz_lt nk_1 hf12 (by omega))).1 (hF (Int32.toNatClampNeg p0) (zz_lt nk_1 hf12 (by omega))).2
      have hDo := hD
      refine va_getN (D := (dC, dI)) (ci := 3) (v := .int (V (a (11 + (Int32.toNatClampNeg p0))) 4)) (C := RX3) (T := TX3) (N := 7) hx hb hw zz_inX3 hown hK hP kq_11 hq_11 rfl 4 (by decide) (hN.use zz_n17) (fun _ h9 => h9) rfl dX7_fieldOf_77 ?_
      refine zz_seti (vf4 (Int32.toNatClampNeg p0)) (zz_RVg3_4 hR (zz_lt nk_1 hf12 (by omega))) ?_
      exact W.iret (v := (vf4 (Int32.toNatClampNeg p0))) hx hb hr (fun t ht hW => ⟨⟨(vf4 (Int32.toNatClampNeg p0)), (), rfl, (Or.inl ⟨by omega, (by rw [c_10, zz_foV_4])⟩), trivial⟩, hS.F ht⟩) hS.2.2 dX7_fieldOf_80
    by_cases c_12 : p1 = 5
    · have zc_12 := c_12
      rw [← Int32.toInt_inj] at zc_12
      try rw [show (5 : Int32).toInt = 5 from by decide] at zc_12
      refine lv_tableIn (tgt := 81) hx hb dX7_fieldOf_13 (by rw [c_12]; decide) (by rw [c_12]; decide) (by rw [c_12]; rfl) (by decide) ?_
      refine lv_aload_n hx hb dX7_fieldOf_81 rfl (lv_at hl 0 rfl) ?_
      obtain ⟨kq_13, hq_13⟩ := zz_pg3 (X := [(a 0, .inr (7, [.ref (a 1), .ref (a 10), .ref (a 23), .ref (a 24), .ref (a 26), .ref (a 29), .ref (a 34), .ref (a 43), .int (nI nh), .int (nI nf), .int clk, .int hi])), (a 10, .inl (cF, 12, .inr (.inr (.inr (.inr fF)))))]) (V := V) (hF (Int32.toNatClampNeg p0) (zz_lt nk_1 hf12 (by omega))).1 (hF (Int32.toNatClampNeg p0) (zz_lt nk_1 hf12 (by omega))).2
      have hDo := hD
      refine va_getN (D := (dC, dI)) (ci := 3) (v := .int (V (a (11 + (Int32.toNatClampNeg p0))) 5)) (C := RX3) (T := TX3) (N := 7) hx hb hw zz_inX3 hown hK hP kq_13 hq_13 rfl 5 (by decide) (hN.use zz_n19) (fun _ h9 => h9) rfl dX7_fieldOf_82 ?_
      refine zz_seti (vf5 (Int32.toNatClampNeg p0)) (zz_RVg3_5 hR (zz_lt nk_1 hf12 (by omega))) ?_
      exact W.iret (v := (vf5 (Int32.toNatClampNeg p0))) hx hb hr (fun t ht hW => ⟨⟨(vf5 (Int32.toNatClampNeg p0)), (), rfl, (Or.inl ⟨by omega, (by rw [c_12, zz_foV_5])⟩), trivial⟩, hS.F ht⟩) hS.2.2 dX7_fieldOf_85
    by_cases c_14 : p1 = 6
    · have zc_14 := c_14
      rw [← Int32.toInt_inj] at zc_14
      try rw [show (6 : Int32).toInt = 6 from by decide] at zc_14
      refine lv_tableIn (tgt := 86) hx hb dX7_fieldOf_13 (by rw [c_14]; decide) (by rw [c_14]; decide) (by rw [c_14]; rfl) (by decide) ?_
      refine lv_aload_n hx hb dX7_fieldOf_86 rfl (lv_at hl 0 rfl) ?_
      obtain ⟨kq_15, hq_15⟩ := zz_pg3 (X := [(a 0, .inr (7, [.ref (a 1), .ref (a 10), .ref (a 23), .ref (a 24), .ref (a 26), .ref (a 29), .ref (a 34), .ref (a 43), .int (nI nh), .int (nI nf), .int clk, .int hi])), (a 10, .inl (cF, 12, .inr (.inr (.inr (.inr fF)))))]) (V := V) (hF (Int32.toNatClampNeg p0) (zz_lt nk_1 hf12 (by omega))).1 (hF (Int32.toNatClampNeg p0) (zz_lt nk_1 hf12 (by omega))).2
      have hDo := hD
      refine va_getN (D := (dC, dI)) (ci := 3) (v := .int (V (a (11 + (Int32.toNatClampNeg p0))) 6)) (C := RX3) (T := TX3) (N := 7) hx hb hw zz_inX3 hown hK hP kq_15 hq_15 rfl 6 (by decide) (hN.use zz_n20) (fun _ h9 => h9) rfl dX7_fieldOf_87 ?_
      refine zz_seti (vf6 (Int32.toNatClampNeg p0)) (zz_RVg3_6 hR (zz_lt nk_1 hf12 (by omega))) ?_
      exact W.iret (v := (vf6 (Int32.toNatClampNeg p0))) hx hb hr (fun t ht hW => ⟨⟨(vf6 (Int32.toNatClampNeg p0)), (), rfl, (Or.inl ⟨by omega, (by rw [c_14, zz_foV_6])⟩), trivial⟩, hS.F ht⟩) hS.2.2 dX7_fieldOf_90
    refine lv_tableOut (tgt := 91) hx hb dX7_fieldOf_13 (by have := zz_ne c_2; rw [show (0 : Int32).toInt = 0 from by decide] at this; have := zz_ne c_4; rw [show (1 : Int32).toInt = 1 from by decide] at this; have := zz_ne c_6; rw [show (2 : Int32).toInt = 2 from by decide] at this; have := zz_ne c_8; rw [show (3 : Int32).toInt = 3 from by decide] at this; have := zz_ne c_10; rw [show (4 : Int32).toInt = 4 from by decide] at this; have := zz_ne c_12; rw [show (5 : Int32).toInt = 5 from by decide] at this; have := zz_ne c_14; rw [show (6 : Int32).toInt = 6 from by decide] at this; omega) (by decide) ?_
    have zc_2 := c_2
    rw [← Int32.toInt_inj] at zc_2
    try rw [show (0 : Int32).toInt = 0 from by decide] at zc_2
    have zc_4 := c_4
    rw [← Int32.toInt_inj] at zc_4
    try rw [show (1 : Int32).toInt = 1 from by decide] at zc_4
    have zc_6 := c_6
    rw [← Int32.toInt_inj] at zc_6
    try rw [show (2 : Int32).toInt = 2 from by decide] at zc_6
    have zc_8 := c_8
    rw [← Int32.toInt_inj] at zc_8
    try rw [show (3 : Int32).toInt = 3 from by decide] at zc_8
    have zc_10 := c_10
    rw [← Int32.toInt_inj] at zc_10
    try rw [show (4 : Int32).toInt = 4 from by decide] at zc_10
    have zc_12 := c_12
    rw [← Int32.toInt_inj] at zc_12
    try rw [show (5 : Int32).toInt = 5 from by decide] at zc_12
    have zc_14 := c_14
    rw [← Int32.toInt_inj] at zc_14
    try rw [show (6 : Int32).toInt = 6 from by decide] at zc_14
    refine lv_iconst (v := (-1)) hx hb dX7_fieldOf_91 (by decide) ?_
    exact W.iret (v := (-1)) hx hb hr (fun t ht hW => ⟨⟨(-1), (), rfl, (Or.inl ⟨by omega, (zz_foV_d c_2 c_4 c_6 c_8 c_10 c_12 c_14).symm⟩), trivial⟩, hS.F ht⟩) hS.2.2 dX7_fieldOf_92
set_option maxHeartbeats 4000000 in
set_option maxRecDepth 100000 in
theorem kx_about (l : Launch) (dC : Nat → ClassId) (dI : Nat → Nat → Nat) (a : Nat → Nat) (nh : Nat) (nf : Nat) (clk : Int32) (hi : Int32) (cI : ClassId) (nd : Nat) (nt : Nat) (fl : Nat → Int32) (p0 : Int32) (sz : Nat) : Met l yX7_about (zz_w yX7_about cX7_about 2 (some .int)) ({ frames := 1, cells := 0, slots := 0, locals := 22 }) (va_Pc [.ref (a 0), .int p0] (zz_B (dC, dI) sz [(a 0, .inr (7, [.ref (a 1), .ref (a 10), .ref (a 23), .ref (a 24), .ref (a 26), .ref (a 29), .ref (a 34), .ref (a 43), .int (nI nh), .int (nI nf), .int clk, .int hi])), (a 29, .inr (1, [.ref (a 30), .ref (a 31), .ref (a 32), .ref (a 33), .int (nI nd)])), (a 24, .inr (6, [.ref (a 25), .int (nI nt)])), (a 23, .inl (cI, 10, .inl fl))] [(cI, .int)])) (va_Qi (fun (r : Int32) (_ : Unit) => r = (zz_abV fl (nI nh) (nI nf) clk (nI nd) hi (nI nt) p0)) (fun _ _ => True) (va_A [] sz)) 0 0 (va_A [] sz) := by
  refine Met.ofW (cc := cX7_about) (maxL := 2) (ret := (some .int)) (by decide) rfl ?_
  intro p e s m args below meth c s₁ B hml hv
  obtain ⟨rfl, hsz, hP, hK, hD0, hN⟩ := hv
  have hx := B.exec
  have hb := B.bytes
  have hr := B.returns
  have hts := atoms_spec (ws := zz_w yX7_about cX7_about 2 (some .int)) B.pre
  have hw : ∀ w ∈ zz_all, w.before _ s = true := fun w h => hts w (List.mem_cons_of_mem _ h)
  have hown : s.vm.findClass RX7 = some m.cls := findClass_of_methodNamed B.named
  have hlocks := B.notSynchronized
  subst hsz
  have hD := hD0
  generalize hAe : va_A [] s.heap.size = A
  have hA : ∀ q : Nat, s.heap.size ≤ q → A q := fun q h => by rw [← hAe]; exact Or.inr h
  have hS : va_S A s.heap s.heap [] := va_S.rf
  have hP : va_P (dC, dI) vwCl [(a 0, .inr (7, [.ref (a 1), .ref (a 10), .ref (a 23), .ref (a 24), .ref (a 26), .ref (a 29), .ref (a 34), .ref (a 43), .int (nI nh), .int (nI nf), .int clk, .int hi])), (a 29, .inr (1, [.ref (a 30), .ref (a 31), .ref (a 32), .ref (a 33), .int (nI nd)])), (a 24, .inr (6, [.ref (a 25), .int (nI nt)])), (a 23, .inl (cI, 10, .inl fl))] s.heap := hP
  have hl := lv_entry ([.ref (a 0), .int p0]) (n := 2) (Nat.le_of_ble_eq_true rfl)
  rw [lg_entry_eq]
  generalize (lg_sl ([.ref (a 0), .int p0]) ++ List.replicate (2 - (lg_sl ([.ref (a 0), .int p0])).length) Slot.unset).toArray = ls at hl ⊢
  have hl : lv_has ls 2 [(0, .ref (a 0)), (1, .int p0)] := hl
  refine lv_iload_n hx hb dX7_about_0 rfl (lv_at hl 1 rfl) ?_
  by_cases c_1 : p0 = 0
  · have zc_1 := c_1
    rw [← Int32.toInt_inj] at zc_1
    try rw [show (0 : Int32).toInt = 0 from by decide] at zc_1
    refine lv_tableIn (tgt := 40) hx hb dX7_about_1 (by rw [c_1]; decide) (by rw [c_1]; decide) (by rw [c_1]; rfl) (by decide) ?_
    refine lv_aload_n hx hb dX7_about_40 rfl (lv_at hl 0 rfl) ?_
    refine va_get (D := (dC, dI)) (ci := 7) (v := .int (nI nh)) (C := RX7) (T := TX7) (N := 12) hx hb hw zz_inX7 hown hK hP 0 rfl rfl 8 (by decide) (hw _ tw_0) (fun _ h9 => h9) rfl dX7_about_41 ?_
    exact W.iret (v := (nI nh)) hx hb hr (fun t ht hW => ⟨⟨(nI nh), (), rfl, (by rw [c_1, zz_abV_0]), trivial⟩, hS.F ht⟩) hS.2.2 dX7_about_44
  by_cases c_2 : p0 = 1
  · have zc_2 := c_2
    rw [← Int32.toInt_inj] at zc_2
    try rw [show (1 : Int32).toInt = 1 from by decide] at zc_2
    refine lv_tableIn (tgt := 45) hx hb dX7_about_1 (by rw [c_2]; decide) (by rw [c_2]; decide) (by rw [c_2]; rfl) (by decide) ?_
    refine lv_aload_n hx hb dX7_about_45 rfl (lv_at hl 0 rfl) ?_
    refine va_get (D := (dC, dI)) (ci := 7) (v := .int (nI nf)) (C := RX7) (T := TX7) (N := 12) hx hb hw zz_inX7 hown hK hP 0 rfl rfl 9 (by decide) (hw _ tw_6) (fun _ h9 => h9) rfl dX7_about_46 ?_
    exact W.iret (v := (nI nf)) hx hb hr (fun t ht hW => ⟨⟨(nI nf), (), rfl, (by rw [c_2, zz_abV_1]), trivial⟩, hS.F ht⟩) hS.2.2 dX7_about_49
  by_cases c_3 : p0 = 2
  · have zc_3 := c_3
    rw [← Int32.toInt_inj] at zc_3
    try rw [show (2 : Int32).toInt = 2 from by decide] at zc_3
    refine lv_tableIn (tgt := 50) hx hb dX7_about_1 (by rw [c_3]; decide) (by rw [c_3]; decide) (by rw [c_3]; rfl) (by decide) ?_
    refine lv_aload_n hx hb dX7_about_50 rfl (lv_at hl 0 rfl) ?_
    refine va_get (D := (dC, dI)) (ci := 7) (v := .int clk) (C := RX7) (T := TX7) (N := 12) hx hb hw zz_inX7 hown hK hP 0 rfl rfl 10 (by decide) (hw _ tw_39) (fun _ h9 => h9) rfl dX7_about_51 ?_
    exact W.iret (v := clk) hx hb hr (fun t ht hW => ⟨⟨clk, (), rfl, (by rw [c_3, zz_abV_2]), trivial⟩, hS.F ht⟩) hS.2.2 dX7_about_54
  by_cases c_4 : p0 = 3
  · have zc_4 := c_4
    rw [← Int32.toInt_inj] at zc_4
    try rw [show (3 : Int32).toInt = 3 from by decide] at zc_4
    refine lv_tableIn (tgt := 55) hx hb dX7_about_1 (by rw [c_4]; decide) (by rw [c_4]; decide) (by rw [c_4]; rfl) (by decide) ?_
    refine lv_aload_n hx hb dX7_about_55 rfl (lv_at hl 0 rfl) ?_
    refine va_get (D := (dC, dI)) (ci := 7) (v := .ref (a 29)) (C := RX7) (T := TX7) (N := 12) hx hb hw zz_inX7 hown hK hP 0 rfl rfl 5 (by decide) (hw _ tw_44) (fun _ h9 => h9) rfl dX7_about_56 ?_
    refine va_getN (D := (dC, dI)) (ci := 1) (v := .int (nI nd)) (C := RX1) (T := TX1) (N := 5) hx hb hw zz_inX1 hown hK hP 1 rfl rfl 4 (by decide) (hN.use zz_n37) (fun _ h9 => h9) rfl dX7_about_59 ?_
    exact W.iret (v := (nI nd)) hx hb hr (fun t ht hW => ⟨⟨(nI nd), (), rfl, (by rw [c_4, zz_abV_3]), trivial⟩, hS.F ht⟩) hS.2.2 dX7_about_62
  by_cases c_5 : p0 = 4
  · have zc_5 := c_5
    rw [← Int32.toInt_inj] at zc_5
    try rw [show (4 : Int32).toInt = 4 from by decide] at zc_5
    refine lv_tableIn (tgt := 63) hx hb dX7_about_1 (by rw [c_5]; decide) (by rw [c_5]; decide) (by rw [c_5]; rfl) (by decide) ?_
    refine lv_aload_n hx hb dX7_about_63 rfl (lv_at hl 0 rfl) ?_
    refine va_get (D := (dC, dI)) (ci := 7) (v := .int hi) (C := RX7) (T := TX7) (N := 12) hx hb hw zz_inX7 hown hK hP 0 rfl rfl 11 (by decide) (hw _ tw_72) (fun _ h9 => h9) rfl dX7_about_64 ?_
    exact W.iret (v := hi) hx hb hr (fun t ht hW => ⟨⟨hi, (), rfl, (by rw [c_5, zz_abV_4]), trivial⟩, hS.F ht⟩) hS.2.2 dX7_about_67
  by_cases c_6 : p0 = 5
  · have zc_6 := c_6
    rw [← Int32.toInt_inj] at zc_6
    try rw [show (5 : Int32).toInt = 5 from by decide] at zc_6
    refine lv_tableIn (tgt := 68) hx hb dX7_about_1 (by rw [c_6]; decide) (by rw [c_6]; decide) (by rw [c_6]; rfl) (by decide) ?_
    refine lv_aload_n hx hb dX7_about_68 rfl (lv_at hl 0 rfl) ?_
    refine va_get (D := (dC, dI)) (ci := 7) (v := .ref (a 24)) (C := RX7) (T := TX7) (N := 12) hx hb hw zz_inX7 hown hK hP 0 rfl rfl 3 (by decide) (hw _ tw_97) (fun _ h9 => h9) rfl dX7_about_69 ?_
    refine va_getN (D := (dC, dI)) (ci := 6) (v := .int (nI nt)) (C := RX6) (T := TX6) (N := 2) hx hb hw zz_inX6 hown hK hP 2 rfl rfl 1 (by decide) (hN.use zz_n23) (fun _ h9 => h9) rfl dX7_about_72 ?_
    exact W.iret (v := (nI nt)) hx hb hr (fun t ht hW => ⟨⟨(nI nt), (), rfl, (by rw [c_6, zz_abV_5]), trivial⟩, hS.F ht⟩) hS.2.2 dX7_about_75
  refine lv_tableOut (tgt := 76) hx hb dX7_about_1 (by have := zz_ne c_1; rw [show (0 : Int32).toInt = 0 from by decide] at this; have := zz_ne c_2; rw [show (1 : Int32).toInt = 1 from by decide] at this; have := zz_ne c_3; rw [show (2 : Int32).toInt = 2 from by decide] at this; have := zz_ne c_4; rw [show (3 : Int32).toInt = 3 from by decide] at this; have := zz_ne c_5; rw [show (4 : Int32).toInt = 4 from by decide] at this; have := zz_ne c_6; rw [show (5 : Int32).toInt = 5 from by decide] at this; omega) (by decide) ?_
  have zc_1 := c_1
  rw [← Int32.toInt_inj] at zc_1
  try rw [show (0 : Int32).toInt = 0 from by decide] at zc_1
  have zc_2 := c_2
  rw [← Int32.toInt_inj] at zc_2
  try rw [show (1 : Int32).toInt = 1 from by decide] at zc_2
  have zc_3 := c_3
  rw [← Int32.toInt_inj] at zc_3
  try rw [show (2 : Int32).toInt = 2 from by decide] at zc_3
  have zc_4 := c_4
  rw [← Int32.toInt_inj] at zc_4
  try rw [show (3 : Int32).toInt = 3 from by decide] at zc_4
  have zc_5 := c_5
  rw [← Int32.toInt_inj] at zc_5
  try rw [show (4 : Int32).toInt = 4 from by decide] at zc_5
  have zc_6 := c_6
  rw [← Int32.toInt_inj] at zc_6
  try rw [show (5 : Int32).toInt = 5 from by decide] at zc_6
  refine lv_iload_n hx hb dX7_about_76 rfl (lv_at hl 1 rfl) ?_
  refine lv_bipush (v := 20) hx hb dX7_about_77 (by decide) ?_
  refine lv_bipush (v := 29) hx hb dX7_about_79 (by decide) ?_
  obtain ⟨hPc, hDc⟩ := zz_sub2 (ws' := []) hP hD [] (by decide) rfl
  have hKc := hK.sub (tys' := []) [] rfl
  have hFc := zz_free0 hS hA
  refine va_calli (va_runS (As := [.int p0, .int 20, .int 29]) (rest := []) ⟨hx, hb, hml, hown, hw⟩ (k_within l dC dI p0 20 29 s.heap.size) ⟨callB_of 3 hw (zz_good tw_1) rfl rfl rfl (hw _ tw_2) (hw _ tw_3) (by decide +kernel) ⟨Nat.le_of_ble_eq_true rfl, Nat.le_of_ble_eq_true rfl⟩, (hw _ tw_4)⟩ ⟨zz_blind, zz_pre hPc hKc hDc hN⟩ rfl rfl hl.1 rfl (lv_room (Nat.le_of_ble_eq_true rfl)) dX7_about_81 ⟨Nat.le_of_ble_eq_true rfl, Nat.le_of_ble_eq_true rfl⟩) hS (fun q _ h => hFc q h) hFc (fun r_7 u_7 t H1 locs ht hvm e_7 hB hz1 hk1 hS => ?_)
  try dsimp only at e_7
  have hP := zz_keep hP hk1
  clear hk1 hB ht hvm
  generalize H1 = H at hP hS ⊢
  refine lv_if_eq (tgt := 99) hx hb dX7_about_84 (by decide) (fun c_8 => ?_) (fun c_8 => ?_)
  · have zc_8 := c_8
    rw [e_7, zz_in0, Int32.le_iff_toInt_le, Int32.le_iff_toInt_le] at zc_8
    try rw [show (20 : Int32).toInt = 20 from by decide] at zc_8
    try rw [show (29 : Int32).toInt = 29 from by decide] at zc_8
    refine lv_iconst (v := (-1)) hx hb dX7_about_99 (by decide) ?_
    exact W.iret (v := (-1)) hx hb hr (fun t ht hW => ⟨⟨(-1), (), rfl, (by rw [zz_abV_d c_1 c_2 c_3 c_4 c_5 c_6, if_neg (by omega)]), trivial⟩, hS.F ht⟩) hS.2.2 dX7_about_100
  · have zc_8 := c_8
    rw [e_7, zz_in0, Int32.le_iff_toInt_le, Int32.le_iff_toInt_le] at zc_8
    try rw [show (20 : Int32).toInt = 20 from by decide] at zc_8
    try rw [show (29 : Int32).toInt = 29 from by decide] at zc_8
    refine lv_aload_n hx hb dX7_about_87 rfl (lv_at hl 0 rfl) ?_
    refine va_get (D := (dC, dI)) (ci := 7) (v := .ref (a 23)) (C := RX7) (T := TX7) (N := 12) hx hb hw zz_inX7 hown hK hP 0 rfl rfl 2 (by decide) (hw _ tw_40) (fun _ h9 => h9) rfl dX7_about_88 ?_
    refine lv_iload_n hx hb dX7_about_91 rfl (lv_at hl 1 rfl) ?_
    refine lv_bipush (v := 20) hx hb dX7_about_92 (by decide) ?_
    refine lv_isub hx hb dX7_about_94 ?_
    refine va_iald hx hb hK hP 3 0 rfl rfl (zz_sub20 (by omega) (by omega)) dX7_about_95 ?_
    refine lv_goto (tgt := 100) hx hb dX7_about_96 (by decide) ?_
    exact W.iret (v := (fl (Int32.toNatClampNeg (p0 - 20)))) hx hb hr (fun t ht hW => ⟨⟨(fl (Int32.toNatClampNeg (p0 - 20))), (), rfl, (by rw [zz_abV_d c_1 c_2 c_3 c_4 c_5 c_6, if_pos (by omega)]), trivial⟩, hS.F ht⟩) hS.2.2 dX7_about_100
