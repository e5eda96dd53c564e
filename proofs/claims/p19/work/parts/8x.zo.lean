theorem zz_nt_out {mo mr mu : Nat → Int32} {mh md i : Nat} (hrd : zz_rg mo md 0 ((mh : Int) - 1)) (hrc : zz_rg mr md 0 ((mh : Int) - 1)) (hi : mh ≤ i) (hi8 : i < 2147483648) : ∀ k : Nat, k ≤ md → zz_nt mo mr mu i k = 0 := by
  intro k
  induction k with
  | zero => intro _; rfl
  | succ k ih =>
    intro hk
    have a := hrd k (by omega)
    have b := hrc k (by omega)
    rw [zz_nt, ih (by omega), if_neg (fun z => by rw [z, zz_toInt i hi8] at b; omega), if_neg (fun z => by rw [z, zz_toInt i hi8] at a; omega)]
    decide
theorem zz_PYeq {mo mr mu u0 G f5 f6 f7 y1 y2 y3 : Nat → Int32} {mh md n k U W : Nat} {l m : List (Nat × Nat × Int32)} (hmh : mh ≤ 8) (hrd : zz_rg mo md 0 ((mh : Int) - 1)) (hrc : zz_rg mr md 0 ((mh : Int) - 1)) (a1 : zz_lf u0 U 8) (a2 : zz_PAY u0 U l) (a3 : zz_pw l n f5 f6 f7) (a4 : ∀ h : Nat, h < 8 → (u0 h).toInt = zz_nt mo mr mu h md) (b1 : zz_lf G W mh) (b2 : ∀ i : Nat, i < mh → (G i).toInt = zz_nt mo mr mu i md) (b3 : zz_PAY G W m) (b4 : zz_pw m k y1 y2 y3) : n = k ∧ ∀ i : Nat, i < n → f5 i = y1 i ∧ f6 i = y2 i ∧ f7 i = y3 i := by
  have e : ∀ h : Nat, h < mh → u0 h = G h := fun h hh => by rw [← Int32.toInt_inj, a4 h (by omega), b2 h hh]
  have hU8 := zz_lf_256 a1 (Nat.le_refl _)
  have eU : U = W := by
    apply Nat.eq_of_testBit_eq
    intro i
    rcases Nat.lt_or_ge i mh with z | z
    · have p := a1.2 i (by omega)
      have q := b1.2 i z
      rw [e i z] at p
      cases w : U.testBit i <;> cases w2 : W.testBit i <;> simp_all
    · rw [Nat.testBit_lt_two_pow (x := W) (Nat.lt_of_lt_of_le b1.1 (Nat.pow_le_pow_right (by decide) z))]
      rcases Nat.lt_or_ge i 8 with y | y
      · have p := a1.2 i y
        have z0 : u0 i = 0 := by rw [← Int32.toInt_inj, a4 i y, zz_nt_out hrd hrc z (by omega) md (Nat.le_refl _)]; decide
        cases w : U.testBit i with
        | false => rfl
        | true => exact absurd z0 (p.mp w)
      · exact Nat.testBit_lt_two_pow (Nat.lt_of_lt_of_le a1.1 (Nat.pow_le_pow_right (by decide) y))
  subst eU
  have el := zz_PAY_det hU8 (fun h hb => e h (by
    rcases Nat.lt_or_ge h mh with z | z
    · exact z
    · rw [Nat.testBit_lt_two_pow (x := U) (Nat.lt_of_lt_of_le b1.1 (Nat.pow_le_pow_right (by decide) z))] at hb; cases hb)) a2 b3
  subst el
  exact zz_pw_det a3 b4
theorem zz_pyV_eq {n k : Nat} {f5 f6 f7 y1 y2 y3 : Nat → Int32} {p q : Int32} (e : n = k) (h : ∀ i : Nat, i < n → f5 i = y1 i ∧ f6 i = y2 i ∧ f7 i = y3 i) (hn : n ≤ 8) : zz_pyV n f5 f6 f7 p q = zz_pyV k y1 y2 y3 p q := by
  subst e
  unfold zz_pyV
  by_cases c : 0 ≤ p.toInt ∧ p.toInt < (n : Int)
  · rw [if_pos c, if_pos c]
    obtain ⟨a, b, d⟩ := h _ (zz_lt c (Nat.le_refl _) (by omega))
    rw [a, b, d]
  · rw [if_neg c, if_neg c]
set_option maxHeartbeats 4000000 in
theorem zz_J_payment {f5 f6 f7 fc fo fu g0 gg mo mr mu u4 y1 y2 y3 yh2 : Nat → Int32} {md mh nd xn : Nat} {p0 p1 r1 r2 : Int32} (hed : nd = md) (heo : fo = mo) (hec : fc = mr) (heu : fu = mu) (hmh : mh ≤ 8) (hrd : zz_rg mo md 0 ((mh : Int) - 1)) (hrc : zz_rg mr md 0 ((mh : Int) - 1)) (X : r1 = zz_pyV xn f5 f6 f7 p0 p1 ∧ (∃ (U : Nat) (l : List (Nat × Nat × Int32)), zz_lf g0 U 8 ∧ zz_PAY g0 U l ∧ zz_pw l xn f5 f6 f7) ∧ (∀ h : Nat, h < 8 → (g0 h).toInt = zz_nt fo fc fu h nd) ∧ xn ≤ 8 ∧ u4 0 = 0) (Y : zz_gl yh2 gg ∧ ∃ n2 : Nat, n2 ≤ 8 ∧ r2 = zz_pyV n2 y1 y2 y3 p0 p1 ∧ ∃ (G : Nat → Int32) (U : Nat) (l : List (Nat × Nat × Int32)), zz_lf G U mh ∧ (∀ i : Nat, i < mh → (G i).toInt = zz_nt mo mr mu i md) ∧ zz_PAY G U l ∧ zz_pw l n2 y1 y2 y3) : r1 = r2 := by
  subst hed heo hec heu
  obtain ⟨x0, ⟨U, l, a1, a2, a3⟩, a4, a5, _⟩ := X
  obtain ⟨_, n2, n28, y0, G, W, m, b1, b2, b3, b4⟩ := Y
  obtain ⟨e1, e2⟩ := zz_PYeq hmh hrd hrc a1 a2 a3 a4 b1 b2 b3 b4
  rw [x0, y0]; exact zz_pyV_eq e1 e2 a5
theorem zz_PY0 {y1 y2 y3 : Nat → Int32} : ∃ (U : Nat) (l : List (Nat × Nat × Int32)), zz_lf (fun _ => (0 : Int32)) U 8 ∧ zz_PAY (fun _ => (0 : Int32)) U l ∧ zz_pw l 0 y1 y2 y3 := by
  obtain ⟨c, hc⟩ := zz_RC_ex (fun _ => (0 : Int32))
  exact ⟨0, [], ⟨by decide, fun i hi => ⟨fun z => (by rw [Nat.zero_testBit] at z; cases z), fun z => absurd rfl z⟩⟩, ⟨c, hc, zz_TL0⟩, zz_pw_0⟩
