set_option maxHeartbeats 4000000 in
theorem zz_J_plan {cc mc mf nc nf xk xn : Nat} {dn fl gg lo nee pl q7 re va xb xo yh2 yp : Nat → Int32} {p0 r1 r2 : Int32} (hag2 : nf = mf) (hag3 : nc = mc) (hel : fl = lo) (hdn : zz_dn dn nee mf) (hdq : zz_dqn nee dn mf) (hpc : gg 47 = nI cc) (hpq : ∀ i : Nat, i < cc → q7 i = pl i) (X : xn ≤ 7 ∧ zz_bnx xb ∧ xk ≤ 7 ∧ ((¬ ((1 ≤ p0.toInt ∧ p0.toInt ≤ 99) ∧ zz_ctp nee nf ≤ 7) ∧ r1 = -1 ∧ xk = cc ∧ xo = q7) ∨ (((1 ≤ p0.toInt ∧ p0.toInt ≤ 99) ∧ zz_ctp nee nf ≤ 7) ∧ zz_Bst fl va re nee nc p0.toInt.toNat (zz_ctp nee nf) (fun q => q < nf ∧ 1 ≤ (nee q).toInt) (fun _ => True) r1 xo ∧ xk = zz_ctp nee nf))) (Y : ((0 ≤ (yh2 47).toInt ∧ (yh2 47).toInt ≤ 7) ∧ yh2 8 = gg 8 ∧ yh2 9 = gg 9 ∧ yh2 32 = gg 32) ∧ ((¬ ((1 ≤ p0.toInt ∧ p0.toInt ≤ 99) ∧ zz_ct dn mf ≤ 7) ∧ r2 = -1 ∧ yh2 47 = gg 47 ∧ yp = pl) ∨ (((1 ≤ p0.toInt ∧ p0.toInt ≤ 99) ∧ zz_ct dn mf ≤ 7) ∧ zz_Bst lo va re nee mc p0.toInt.toNat (zz_ct dn mf) (fun q => q < mf ∧ 1 ≤ (nee q).toInt) (fun _ => True) r2 yp ∧ yh2 47 = nI (zz_ct dn mf)))) : r1 = r2 ∧ yh2 47 = nI xk ∧ ∀ i : Nat, i < xk → xo i = yp i := by
  subst hag2 hag3 hel
  have ct := zz_ct_ctp hdn hdq _ (Nat.le_refl _)
  obtain ⟨_, _, _, X⟩ := X
  obtain ⟨_, Y⟩ := Y
  rw [ct] at Y
  rcases X with ⟨a0, a1, a2, a3⟩ | ⟨a0, a1, a2⟩ <;> rcases Y with ⟨b0, b1, b2, b3⟩ | ⟨b0, b1, b2⟩
  · refine ⟨a1.trans b1.symm, by rw [b2, a2]; exact hpc, fun i hi => ?_⟩
    rw [a3, b3]
    exact hpq i (by rw [← a2]; exact hi)
  · exact absurd b0 a0
  · exact absurd a0 b0
  · obtain ⟨e1, e2⟩ := zz_Bst_det a1 b1
    exact ⟨e1, by rw [b2, a2], fun i hi => e2 i (by rw [← a2]; exact hi)⟩
set_option maxHeartbeats 4000000 in
theorem zz_J_planned {cc : Nat} {gg pl q7 : Nat → Int32} {p0 r1 r2 : Int32} (hpc : gg 47 = nI cc) (hpq : ∀ i : Nat, i < cc → q7 i = pl i) (hcc : cc ≤ 7) (X : r1 = (if 0 ≤ p0.toInt ∧ p0.toInt < (cc : Int) then q7 (Int32.toNatClampNeg p0) else -1)) (Y : r2 = (if 0 ≤ p0.toInt ∧ p0.toInt < (gg 47).toInt then pl (Int32.toNatClampNeg p0) else -1)) : r1 = r2 := by
  rw [X, Y, hpc, zz_toInt cc (by omega)]
  by_cases c : 0 ≤ p0.toInt ∧ p0.toInt < (cc : Int)
  · rw [if_pos c, if_pos c]
    exact hpq _ (zz_lt c (Nat.le_refl _) (by omega))
  · rw [if_neg c, if_neg c]
theorem zz_lr_J {lo f2 : Nat → Int32} {p0 p1 r : Int32} (h : zz_rg lo 10 0 100) (m : (((0 ≤ p0.toInt ∧ p0.toInt ≤ 9) ∧ (0 ≤ p1.toInt ∧ p1.toInt ≤ 100)) ∧ r = 1 ∧ f2 = upd lo (Int32.toNatClampNeg p0) p1) ∨ (¬ ((0 ≤ p0.toInt ∧ p0.toInt ≤ 9) ∧ (0 ≤ p1.toInt ∧ p1.toInt ≤ 100)) ∧ r = 0 ∧ f2 = lo)) : zz_rg f2 10 0 100 := by
  rcases m with ⟨a, _, e⟩ | ⟨_, _, e⟩
  · rw [e]
    intro k hk
    by_cases z : k = Int32.toNatClampNeg p0
    · rw [z, zz_up_s]; exact a.2
    · rw [zz_up_n z]; exact h k hk
  · rw [e]; exact h
