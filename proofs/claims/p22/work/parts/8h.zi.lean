set_option maxHeartbeats 4000000 in
theorem zz_J_work {V2 : Nat → Nat → Int32} {a : Nat → Nat} {bu : Int} {cm dn f1 f2 fc fl fo fs ft fu gt ha il kd la lo mo mr mu my nee ow pd re us va wi xc xo xs xu yc yd yf1 yf2 yg yn yo ys yu yus : Nat → Int32} {mc md mf mh nc nd nf nh xn yn0 : Nat} {p0 p1 p2 r1 r2 : Int32} (hag1 : nh = mh) (hag2 : nf = mf) (hag3 : nc = mc) (hed : nd = md) (heo : fo = mo) (hec : fc = mr) (hes : fs = my) (heu : fu = mu) (hel : fl = lo) (htc : ∀ w : Nat, w < 7 → ft w = cm w) (hmf : mf ≤ 12) (hmc : mc ≤ 400) (hmd : md ≤ 300) (huq : zz_uq mo mr my md) (hoc : zz_oc mo mr md) (hdq : zz_dqn nee dn mf) (hro : zz_rg ow mf 0 ((mh : Int) - 1)) (hrk : zz_rg kd mf 0 2) (X : (¬ ((0 ≤ p0.toInt ∧ p0.toInt < (nh : Int)) ∧ (0 ≤ p1.toInt ∧ p1.toInt < (nf : Int)) ∧ nd < 300 ∧ (re (Int32.toNatClampNeg p1)).toInt ≤ (nc : Int) ∧ 1 ≤ p2.toInt ∧ p2.toInt ≤ (nee (Int32.toNatClampNeg p1)).toInt ∧ p2.toInt ≤ (zz_fr il ha us (Int32.toNatClampNeg p0)).toInt) ∧ r1 = -1 ∧ (xn = nd ∧ xo = fo ∧ xc = fc ∧ xs = fs ∧ xu = fu) ∧ zz_RV a V2 ha wi il us f1 f2 pd la (zz_prn ow dn gt mf) ow kd nee re va (zz_dfn dn mf) (zz_pfn dn gt mf)) ∨ (((0 ≤ p0.toInt ∧ p0.toInt < (nh : Int)) ∧ (0 ≤ p1.toInt ∧ p1.toInt < (nf : Int)) ∧ nd < 300 ∧ (re (Int32.toNatClampNeg p1)).toInt ≤ (nc : Int) ∧ 1 ≤ p2.toInt ∧ p2.toInt ≤ (nee (Int32.toNatClampNeg p1)).toInt ∧ p2.toInt ≤ (zz_fr il ha us (Int32.toNatClampNeg p0)).toInt) ∧ r1 = (nee (Int32.toNatClampNeg p1) - p2) ∧ ((ow (Int32.toNatClampNeg p1) = p0 ∧ xn = nd ∧ xo = fo ∧ xc = fc ∧ xs = fs ∧ xu = fu) ∨ (¬ ow (Int32.toNatClampNeg p1) = p0 ∧ zz_owD fo fc fs fu nd p0 (ow (Int32.toNatClampNeg p1)) (nI nc) (p2 * (ft (Int32.toNatClampNeg (kd (Int32.toNatClampNeg p1))))) xn xo xc xs xu)) ∧ zz_RV a V2 ha wi il (upd us (Int32.toNatClampNeg p0) (us (Int32.toNatClampNeg p0) + p2)) (if ow (Int32.toNatClampNeg p1) = p0 then f1 else upd f1 (Int32.toNatClampNeg p0) (f1 (Int32.toNatClampNeg p0) + (p2 * (ft (Int32.toNatClampNeg 5))))) (if ow (Int32.toNatClampNeg p1) = p0 then f2 else upd f2 (Int32.toNatClampNeg (ow (Int32.toNatClampNeg p1))) (f2 (Int32.toNatClampNeg (ow (Int32.toNatClampNeg p1))) + (p2 * (ft (Int32.toNatClampNeg 5))))) pd la (if (nee (Int32.toNatClampNeg p1) - p2) = 0 then upd (zz_prn ow dn gt mf) (Int32.toNatClampNeg (ow (Int32.toNatClampNeg p1))) ((zz_prn ow dn gt mf) (Int32.toNatClampNeg (ow (Int32.toNatClampNeg p1))) + (zz_pc fl (va (Int32.toNatClampNeg p1)) ((nI nc) - (re (Int32.toNatClampNeg p1))))) else (zz_prn ow dn gt mf)) ow kd (upd nee (Int32.toNatClampNeg p1) (nee (Int32.toNatClampNeg p1) - p2)) re va (if (nee (Int32.toNatClampNeg p1) - p2) = 0 then upd (zz_dfn dn mf) (Int32.toNatClampNeg p1) (nI nc) else (zz_dfn dn mf)) (if (nee (Int32.toNatClampNeg p1) - p2) = 0 then upd (zz_pfn dn gt mf) (Int32.toNatClampNeg p1) (zz_pc fl (va (Int32.toNatClampNeg p1)) ((nI nc) - (re (Int32.toNatClampNeg p1)))) else (zz_pfn dn gt mf)))) (Y : ((¬ ((0 ≤ p0.toInt ∧ p0.toInt < (mh : Int)) ∧ (0 ≤ p1.toInt ∧ p1.toInt < (mf : Int)) ∧ md < 300 ∧ (re (Int32.toNatClampNeg p1)).toInt ≤ (mc : Int) ∧ 1 ≤ p2.toInt ∧ p2.toInt ≤ (nee (Int32.toNatClampNeg p1)).toInt ∧ p2.toInt ≤ (zz_fr il ha us (Int32.toNatClampNeg p0)).toInt) ∧ r2 = -1 ∧ (yn0 = md ∧ yo = mo ∧ yc = mr ∧ ys = my ∧ yu = mu) ∧ yus = us ∧ yf1 = f1 ∧ yf2 = f2 ∧ yn = nee ∧ yd = dn ∧ yg = gt) ∨ (((0 ≤ p0.toInt ∧ p0.toInt < (mh : Int)) ∧ (0 ≤ p1.toInt ∧ p1.toInt < (mf : Int)) ∧ md < 300 ∧ (re (Int32.toNatClampNeg p1)).toInt ≤ (mc : Int) ∧ 1 ≤ p2.toInt ∧ p2.toInt ≤ (nee (Int32.toNatClampNeg p1)).toInt ∧ p2.toInt ≤ (zz_fr il ha us (Int32.toNatClampNeg p0)).toInt) ∧ r2 = (nee (Int32.toNatClampNeg p1) - p2) ∧ ((ow (Int32.toNatClampNeg p1) = p0 ∧ yn0 = md ∧ yo = mo ∧ yc = mr ∧ ys = my ∧ yu = mu) ∨ (¬ ow (Int32.toNatClampNeg p1) = p0 ∧ zz_owD mo mr my mu md p0 (ow (Int32.toNatClampNeg p1)) (nI mc) (p2 * (cm (Int32.toNatClampNeg (kd (Int32.toNatClampNeg p1))))) yn0 yo yc ys yu)) ∧ yus = upd us (Int32.toNatClampNeg p0) (us (Int32.toNatClampNeg p0) + p2) ∧ yf1 = (if ow (Int32.toNatClampNeg p1) = p0 then f1 else upd f1 (Int32.toNatClampNeg p0) (f1 (Int32.toNatClampNeg p0) + (p2 * (cm (Int32.toNatClampNeg 5))))) ∧ yf2 = (if ow (Int32.toNatClampNeg p1) = p0 then f2 else upd f2 (Int32.toNatClampNeg (ow (Int32.toNatClampNeg p1))) (f2 (Int32.toNatClampNeg (ow (Int32.toNatClampNeg p1))) + (p2 * (cm (Int32.toNatClampNeg 5))))) ∧ yn = upd nee (Int32.toNatClampNeg p1) (nee (Int32.toNatClampNeg p1) - p2) ∧ yd = (if (nee (Int32.toNatClampNeg p1) - p2) = 0 then upd dn (Int32.toNatClampNeg p1) (nI mc) else dn) ∧ yg = (if (nee (Int32.toNatClampNeg p1) - p2) = 0 then upd gt (Int32.toNatClampNeg p1) (zz_pc lo (va (Int32.toNatClampNeg p1)) ((nI mc) - (re (Int32.toNatClampNeg p1)))) else gt))) ∧ yn0 ≤ 300 ∧ zz_rg yo yn0 0 ((mh : Int) - 1) ∧ zz_rg yc yn0 0 ((mh : Int) - 1) ∧ zz_rg yu yn0 0 (bu + 5940) ∧ zz_rg yn mf 0 60 ∧ zz_dn yd yn mf) : r1 = r2 ∧ (xn = yn0 ∧ xo = yo ∧ xc = yc ∧ xs = ys ∧ xu = yu) ∧ zz_RV a V2 ha wi il yus yf1 yf2 pd la (zz_prn ow yd yg mf) ow kd yn re va (zz_dfn yd mf) (zz_pfn yd yg mf) ∧ zz_uq yo yc ys yn0 ∧ zz_oc yo yc yn0 ∧ zz_dqn yn yd mf := by
  subst hag1 hag2 hag3 hed heo hec hes heu hel
  have Y := Y.1
  rcases X with ⟨a0, a1, ⟨a2, a3, a4, a5, a6⟩, aR⟩ | ⟨a0, a1, aD, aR⟩ <;> rcases Y with ⟨b0, b1, ⟨b2, b3, b4, b5, b6⟩, b7, b8, b9, b10, b11, b12⟩ | ⟨b0, b1, bD, b7, b8, b9, b10, b11, b12⟩
  · refine ⟨a1.trans b1.symm, ⟨a2.trans b2.symm, a3.trans b3.symm, a4.trans b4.symm, a5.trans b5.symm, a6.trans b6.symm⟩, ?_, ?_, ?_, ?_⟩
    · rw [b7, b8, b9, b10, b11, b12]; exact aR
    · rw [b2, b3, b4, b5]; exact huq
    · rw [b2, b3, b4]; exact hoc
    · rw [b10, b11]; exact hdq
  · exact absurd b0 a0
  · exact absurd a0 b0
  · have hF : Int32.toNatClampNeg p1 < nf := zz_lt a0.2.1 (Nat.le_refl _) (by have := a0.2.1; omega)
    have ho := hro _ hF
    have hk := hrk _ hF
    have e5 : ft (Int32.toNatClampNeg 5) = cm (Int32.toNatClampNeg 5) := htc _ (by decide)
    have ek : ft (Int32.toNatClampNeg (kd (Int32.toNatClampNeg p1))) = cm (Int32.toNatClampNeg (kd (Int32.toNatClampNeg p1))) := htc _ (zz_lt (c := 7) ⟨hk.1, by omega⟩ (Nat.le_refl _) (by omega))
    rw [e5] at aR
    rw [ek] at aD
    have h1 : 1 ≤ (nee (Int32.toNatClampNeg p1)).toInt := by have := a0.2.2.2.2; omega
    have hd := hdq _ hF h1
    have key : xn = yn0 ∧ xo = yo ∧ xc = yc ∧ xs = ys ∧ xu = yu := by
      rcases aD with ⟨o1, a2, a3, a4, a5, a6⟩ | ⟨o1, a2⟩ <;> rcases bD with ⟨o2, b2, b3, b4, b5, b6⟩ | ⟨o2, b2⟩
      · exact ⟨a2.trans b2.symm, a3.trans b3.symm, a4.trans b4.symm, a5.trans b5.symm, a6.trans b6.symm⟩
      · exact absurd o1 o2
      · exact absurd o2 o1
      · exact zz_owD_det hmd huq a2 b2
    refine ⟨a1.trans b1.symm, key, ?_, ?_, ?_, ?_⟩
    · rw [b7, b8, b9, b10, b11, b12]
      exact zz_wd_to hF (by rw [zz_toInt nc (by omega)]; omega) hd ho.1 aR
    · rcases bD with ⟨o2, b2, b3, b4, b5, b6⟩ | ⟨o2, b2⟩
      · rw [b2, b3, b4, b5]; exact huq
      · exact zz_owD_uq hmd huq b2
    · rcases bD with ⟨o2, b2, b3, b4, b5, b6⟩ | ⟨o2, b2⟩
      · rw [b2, b3, b4]; exact hoc
      · exact zz_owD_oc hmd hoc o2 b2
    · rw [b10, b11]; exact zz_wd_dq hdq h1 hF
set_option maxHeartbeats 4000000 in
theorem zz_J_hire {V2 : Nat → Nat → Int32} {a : Nat → Nat} {cm dn f1 f2 fl ft gg gt ha il kd la lo nee ow pd re us va wi yd yg yh2 yn ypd : Nat → Int32} {hi p0 p1 r1 r2 xhi : Int32} {mc mf mh nc nf nh : Nat} (hag1 : nh = mh) (hag2 : nf = mf) (hag3 : nc = mc) (hel : fl = lo) (htc : ∀ w : Nat, w < 7 → ft w = cm w) (hhi : hi = gg 32) (hmf : mf ≤ 12) (hmc : mc ≤ 400) (hdq : zz_dqn nee dn mf) (hro : zz_rg ow mf 0 ((mh : Int) - 1)) (X : (¬ ((0 ≤ p0.toInt ∧ p0.toInt < (nf : Int)) ∧ (re (Int32.toNatClampNeg p0)).toInt ≤ (nc : Int) ∧ 1 ≤ p1.toInt ∧ p1.toInt ≤ (nee (Int32.toNatClampNeg p0)).toInt ∧ p1.toInt ≤ (20 - hi).toInt) ∧ r1 = -1 ∧ xhi = hi ∧ zz_RV a V2 ha wi il us f1 f2 pd la (zz_prn ow dn gt mf) ow kd nee re va (zz_dfn dn mf) (zz_pfn dn gt mf)) ∨ (((0 ≤ p0.toInt ∧ p0.toInt < (nf : Int)) ∧ (re (Int32.toNatClampNeg p0)).toInt ≤ (nc : Int) ∧ 1 ≤ p1.toInt ∧ p1.toInt ≤ (nee (Int32.toNatClampNeg p0)).toInt ∧ p1.toInt ≤ (20 - hi).toInt) ∧ r1 = (nee (Int32.toNatClampNeg p0) - p1) ∧ xhi = hi + p1 ∧ zz_RV a V2 ha wi il us f1 f2 (upd pd (Int32.toNatClampNeg (ow (Int32.toNatClampNeg p0))) (pd (Int32.toNatClampNeg (ow (Int32.toNatClampNeg p0))) + (p1 * (ft (Int32.toNatClampNeg 6))))) la (if (nee (Int32.toNatClampNeg p0) - p1) = 0 then upd (zz_prn ow dn gt mf) (Int32.toNatClampNeg (ow (Int32.toNatClampNeg p0))) ((zz_prn ow dn gt mf) (Int32.toNatClampNeg (ow (Int32.toNatClampNeg p0))) + (zz_pc fl (va (Int32.toNatClampNeg p0)) ((nI nc) - (re (Int32.toNatClampNeg p0))))) else (zz_prn ow dn gt mf)) ow kd (upd nee (Int32.toNatClampNeg p0) (nee (Int32.toNatClampNeg p0) - p1)) re va (if (nee (Int32.toNatClampNeg p0) - p1) = 0 then upd (zz_dfn dn mf) (Int32.toNatClampNeg p0) (nI nc) else (zz_dfn dn mf)) (if (nee (Int32.toNatClampNeg p0) - p1) = 0 then upd (zz_pfn dn gt mf) (Int32.toNatClampNeg p0) (zz_pc fl (va (Int32.toNatClampNeg p0)) ((nI nc) - (re (Int32.toNatClampNeg p0)))) else (zz_pfn dn gt mf)))) (Y : zz_gk yh2 gg ∧ ((¬ ((0 ≤ p0.toInt ∧ p0.toInt < (mf : Int)) ∧ (re (Int32.toNatClampNeg p0)).toInt ≤ (mc : Int) ∧ 1 ≤ p1.toInt ∧ p1.toInt ≤ (nee (Int32.toNatClampNeg p0)).toInt ∧ p1.toInt ≤ (20 - (gg 32)).toInt) ∧ r2 = -1 ∧ yh2 32 = gg 32 ∧ ypd = pd ∧ yn = nee ∧ yd = dn ∧ yg = gt) ∨ (((0 ≤ p0.toInt ∧ p0.toInt < (mf : Int)) ∧ (re (Int32.toNatClampNeg p0)).toInt ≤ (mc : Int) ∧ 1 ≤ p1.toInt ∧ p1.toInt ≤ (nee (Int32.toNatClampNeg p0)).toInt ∧ p1.toInt ≤ (20 - (gg 32)).toInt) ∧ r2 = (nee (Int32.toNatClampNeg p0) - p1) ∧ yh2 32 = gg 32 + p1 ∧ ypd = upd pd (Int32.toNatClampNeg (ow (Int32.toNatClampNeg p0))) (pd (Int32.toNatClampNeg (ow (Int32.toNatClampNeg p0))) + (p1 * (cm (Int32.toNatClampNeg 6)))) ∧ yn = upd nee (Int32.toNatClampNeg p0) (nee (Int32.toNatClampNeg p0) - p1) ∧ yd = (if (nee (Int32.toNatClampNeg p0) - p1) = 0 then upd dn (Int32.toNatClampNeg p0) (nI mc) else dn) ∧ yg = (if (nee (Int32.toNatClampNeg p0) - p1) = 0 then upd gt (Int32.toNatClampNeg p0) (zz_pc lo (va (Int32.toNatClampNeg p0)) ((nI mc) - (re (Int32.toNatClampNeg p0)))) else gt))) ∧ zz_rg yn mf 0 60 ∧ zz_dn yd yn mf) : r1 = r2 ∧ xhi = yh2 32 ∧ zz_RV a V2 ha wi il us f1 f2 ypd la (zz_prn ow yd yg mf) ow kd yn re va (zz_dfn yd mf) (zz_pfn yd yg mf) ∧ zz_dqn yn yd mf := by
  subst hag1 hag2 hag3 hel
  have Y := Y.2.1
  rcases X with ⟨a0, a1, a2, aR⟩ | ⟨a0, a1, a2, aR⟩ <;> rcases Y with ⟨b0, b1, b2, b3, b4, b5, b6⟩ | ⟨b0, b1, b2, b3, b4, b5, b6⟩
  · refine ⟨a1.trans b1.symm, (a2.trans hhi).trans b2.symm, ?_, ?_⟩
    · rw [b3, b4, b5, b6]; exact aR
    · rw [b4, b5]; exact hdq
  · rw [hhi] at a0; exact absurd b0 a0
  · rw [hhi] at a0; exact absurd a0 b0
  · have hF : Int32.toNatClampNeg p0 < nf := zz_lt a0.1 (Nat.le_refl _) (by have := a0.1; omega)
    have ho := hro _ hF
    have e6 : ft (Int32.toNatClampNeg 6) = cm (Int32.toNatClampNeg 6) := htc _ (by decide)
    rw [e6] at aR
    have h1 : 1 ≤ (nee (Int32.toNatClampNeg p0)).toInt := by have := a0.2.2; omega
    have hd := hdq _ hF h1
    refine ⟨a1.trans b1.symm, (by rw [a2, b2, hhi]), ?_, ?_⟩
    · rw [b3, b4, b5, b6]
      exact zz_wd_to hF (by rw [zz_toInt nc (by omega)]; omega) hd ho.1 aR
    · rw [b4, b5]; exact zz_wd_dq hdq h1 hF
