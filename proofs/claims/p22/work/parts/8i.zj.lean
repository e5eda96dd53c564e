theorem zz_dI_r8 {f : Nat → Int32} {n : Nat} (h : zz_rg f 8 0 400) : zz_rg (zz_dI f n) 8 0 400 := by
  intro i hi
  have e1 : (1 : Int32).toInt = 1 := by decide
  unfold zz_dI
  have := h i hi
  by_cases q : i < n
  · rw [if_pos q]
    by_cases c : 0 < (f i).toInt
    · rw [if_pos c, zz_subI (by rw [e1]; omega) (by rw [e1]; omega), e1]; omega
    · rw [if_neg c, Int32.sub_zero]; exact this
  · rw [if_neg q]; exact this
theorem zz_dys_i {nh nc : Nat} {wi il us la fo fc fs fu : Nat → Int32} {t3 t4 : Int32} {nd : Nat} (hn : nd ≤ 300) (hi : zz_rg il 8 0 400) (hu : zz_uq fo fc fs nd) (ho : zz_oc fo fc nd) : ∀ j : Nat, zz_rg (zz_dys nh wi t3 t4 nc (il, us, la, nd, fo, fc, fs, fu) j).1 8 0 400 ∧ (zz_dys nh wi t3 t4 nc (il, us, la, nd, fo, fc, fs, fu) j).2.2.2.1 ≤ 300 ∧ zz_uq (zz_dys nh wi t3 t4 nc (il, us, la, nd, fo, fc, fs, fu) j).2.2.2.2.1 (zz_dys nh wi t3 t4 nc (il, us, la, nd, fo, fc, fs, fu) j).2.2.2.2.2.1 (zz_dys nh wi t3 t4 nc (il, us, la, nd, fo, fc, fs, fu) j).2.2.2.2.2.2.1 (zz_dys nh wi t3 t4 nc (il, us, la, nd, fo, fc, fs, fu) j).2.2.2.1 ∧ zz_oc (zz_dys nh wi t3 t4 nc (il, us, la, nd, fo, fc, fs, fu) j).2.2.2.2.1 (zz_dys nh wi t3 t4 nc (il, us, la, nd, fo, fc, fs, fu) j).2.2.2.2.2.1 (zz_dys nh wi t3 t4 nc (il, us, la, nd, fo, fc, fs, fu) j).2.2.2.1 := by
  intro j
  induction j with
  | zero => exact ⟨hi, hn, hu, ho⟩
  | succ j ih =>
    rw [zz_dys]
    generalize zz_dys nh wi t3 t4 nc (il, us, la, nd, fo, fc, fs, fu) j = s at ih ⊢
    obtain ⟨h1, h2, h3, h4⟩ := ih
    exact ⟨zz_dI_r8 h1, Nat.le_trans (zz_dr_le h2) h2, zz_dr_uq h2 h3, zz_dr_oc h2 h4⟩
set_option maxHeartbeats 4000000 in
theorem zz_J_days {V2 : Nat → Nat → Int32} {a : Nat → Nat} {bu : Int} {cm dn f1 f2 fc fo fs ft fu gg gt ha il kd la mo mr mu my nee ow pd re us va wi xb xc xi xl xo xs xu yb yc yh2 yi yl yo ys yu : Nat → Int32} {hi p0 r1 r2 xhi : Int32} {mc md mf mh nc nd nh xk xn yk yn0 : Nat} (hag1 : nh = mh) (hag3 : nc = mc) (hed : nd = md) (heo : fo = mo) (hec : fc = mr) (hes : fs = my) (heu : fu = mu) (htc : ∀ w : Nat, w < 7 → ft w = cm w) (hhi : hi = gg 32) (hmd : md ≤ 300) (hil : zz_rg il 8 0 400) (huq : zz_uq mo mr my md) (hoc : zz_oc mo mr md) (X : xn ≤ 300 ∧ xk ≤ 400 ∧ ((((1 ≤ p0.toInt ∧ p0.toInt ≤ 100) ∧ (nc : Int) + p0.toInt ≤ 400) ∧ r1 = nI xk ∧ (xk : Int) = nc + p0.toInt ∧ xhi = 0 ∧ (xi, xb, xl, xn, xo, xc, xs, xu) = (zz_dys nh wi (ft (Int32.toNatClampNeg 3)) (ft (Int32.toNatClampNeg 4)) nc (il, us, la, nd, fo, fc, fs, fu) p0.toInt.toNat) ∧ zz_RV a V2 ha wi xi xb f1 f2 pd xl (zz_prn ow dn gt mf) ow kd nee re va (zz_dfn dn mf) (zz_pfn dn gt mf)) ∨ (¬ ((1 ≤ p0.toInt ∧ p0.toInt ≤ 100) ∧ (nc : Int) + p0.toInt ≤ 400) ∧ r1 = -1 ∧ xk = nc ∧ xhi = hi ∧ (xi = il ∧ xb = us ∧ xl = la ∧ xn = nd ∧ xo = fo ∧ xc = fc ∧ xs = fs ∧ xu = fu) ∧ zz_RV a V2 ha wi il us f1 f2 pd la (zz_prn ow dn gt mf) ow kd nee re va (zz_dfn dn mf) (zz_pfn dn gt mf)))) (Y : yn0 ≤ 300 ∧ yk ≤ 400 ∧ ((((1 ≤ p0.toInt ∧ p0.toInt ≤ 100) ∧ (mc : Int) + p0.toInt ≤ 400) ∧ r2 = nI yk ∧ (yk : Int) = mc + p0.toInt ∧ yh2 32 = 0 ∧ (yi, yb, yl, yn0, yo, yc, ys, yu) = (zz_dys mh wi (cm (Int32.toNatClampNeg 3)) (cm (Int32.toNatClampNeg 4)) mc (il, us, la, md, mo, mr, my, mu) p0.toInt.toNat)) ∨ (¬ ((1 ≤ p0.toInt ∧ p0.toInt ≤ 100) ∧ (mc : Int) + p0.toInt ≤ 400) ∧ r2 = -1 ∧ yk = mc ∧ yh2 32 = gg 32 ∧ yi = il ∧ yb = us ∧ yl = la ∧ yn0 = md ∧ yo = mo ∧ yc = mr ∧ ys = my ∧ yu = mu)) ∧ zz_rg yo yn0 0 ((mh : Int) - 1) ∧ zz_rg yc yn0 0 ((mh : Int) - 1) ∧ zz_rg yu yn0 0 bu ∧ zz_gk yh2 gg) : r1 = r2 ∧ xk = yk ∧ (xn = yn0 ∧ xo = yo ∧ xc = yc ∧ xs = ys ∧ xu = yu) ∧ xhi = yh2 32 ∧ zz_RV a V2 ha wi yi yb f1 f2 pd yl (zz_prn ow dn gt mf) ow kd nee re va (zz_dfn dn mf) (zz_pfn dn gt mf) ∧ zz_rg yi 8 0 400 ∧ zz_uq yo yc ys yn0 ∧ zz_oc yo yc yn0 := by
  subst hag1 hag3 hed heo hec hes heu
  have X := X.2.2
  have Y := Y.2.2.1
  have e3 : ft (Int32.toNatClampNeg 3) = cm (Int32.toNatClampNeg 3) := htc _ (by decide)
  have e4 : ft (Int32.toNatClampNeg 4) = cm (Int32.toNatClampNeg 4) := htc _ (by decide)
  rw [e3, e4] at X
  rcases X with ⟨a0, a1, a2, a3, a4, aR⟩ | ⟨a0, a1, a2, a3, ⟨c1, c2, c3, c4, c5, c6, c7, c8⟩, aR⟩ <;> rcases Y with ⟨b0, b1, b2, b3, b4⟩ | ⟨b0, b1, b2, b3, d1, d2, d3, d4, d5, d6, d7, d8⟩
  · have q := a4.trans b4.symm
    simp only [Prod.mk.injEq] at q
    obtain ⟨q1, q2, q3, q4, q5, q6, q7, q8⟩ := q
    have ek : xk = yk := by omega
    have I := zz_dys_i (nh := nh) (nc := nc) (wi := wi) (us := us) (la := la) (fu := fu) (t3 := cm (Int32.toNatClampNeg 3)) (t4 := cm (Int32.toNatClampNeg 4)) hmd hil huq hoc p0.toInt.toNat
    rw [← b4] at I
    refine ⟨by rw [a1, b1, ek], ek, ⟨q4, q5, q6, q7, q8⟩, a3.trans b3.symm, ?_, I.1, I.2.2.1, I.2.2.2⟩
    rw [← q1, ← q2, ← q3]; exact aR
  · exact absurd a0 b0
  · exact absurd b0 a0
  · refine ⟨a1.trans b1.symm, a2.trans b2.symm, ⟨c4.trans d4.symm, c5.trans d5.symm, c6.trans d6.symm, c7.trans d7.symm, c8.trans d8.symm⟩, (a3.trans hhi).trans b3.symm, ?_, ?_, ?_, ?_⟩
    · rw [d1, d2, d3]; exact aR
    · rw [d1]; exact hil
    · rw [d4, d5, d6, d7]; exact huq
    · rw [d4, d5, d6]; exact hoc
