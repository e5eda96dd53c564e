abbrev zz_dT : Type := Nat × (Nat → Int32) × (Nat → Int32) × (Nat → Int32) × (Nat → Int32)
def zz_drS (j : Nat) (s : zz_dT) : zz_dT := if 0 < (s.2.2.2.2 j).toInt then (s.1 + 1, upd s.2.1 (Int32.toNatClampNeg (nI s.1)) (s.2.1 j), upd s.2.2.1 (Int32.toNatClampNeg (nI s.1)) (s.2.2.1 j), upd s.2.2.2.1 (Int32.toNatClampNeg (nI s.1)) (s.2.2.2.1 j), upd s.2.2.2.2 (Int32.toNatClampNeg (nI s.1)) (s.2.2.2.2 j)) else s
def zz_dr (s : zz_dT) : Nat → zz_dT
  | 0 => s
  | j + 1 => zz_drS j (zz_dr s j)
theorem zz_dr_y {s0 : zz_dT} {j k : Nat} {go gc gs gu : Nat → Int32} (h : (k, go, gc, gs, gu) = zz_dr s0 j) (hp : 0 < (gu j).toInt) : (k + 1, upd go (Int32.toNatClampNeg (nI k)) (go j), upd gc (Int32.toNatClampNeg (nI k)) (gc j), upd gs (Int32.toNatClampNeg (nI k)) (gs j), upd gu (Int32.toNatClampNeg (nI k)) (gu j)) = zz_dr s0 (j + 1) := by
  show _ = zz_drS j (zz_dr s0 j)
  rw [← h]
  unfold zz_drS
  exact (if_pos hp).symm
theorem zz_dr_n {s0 : zz_dT} {j k : Nat} {go gc gs gu : Nat → Int32} (h : (k, go, gc, gs, gu) = zz_dr s0 j) (hp : ¬ 0 < (gu j).toInt) : (k, go, gc, gs, gu) = zz_dr s0 (j + 1) := by
  show _ = zz_drS j (zz_dr s0 j)
  rw [← h]
  unfold zz_drS
  exact (if_neg hp).symm
/-- where each kept one stood -/
theorem zz_dr_sub {fo fc fs fu : Nat → Int32} {nd : Nat} (hn : nd ≤ 300) : ∀ j : Nat, j ≤ nd → (zz_dr (0, fo, fc, fs, fu) j).1 ≤ j ∧ (∃ p : Nat → Nat, (∀ i : Nat, i < (zz_dr (0, fo, fc, fs, fu) j).1 → p i < j ∧ (zz_dr (0, fo, fc, fs, fu) j).2.1 i = fo (p i) ∧ (zz_dr (0, fo, fc, fs, fu) j).2.2.1 i = fc (p i) ∧ (zz_dr (0, fo, fc, fs, fu) j).2.2.2.1 i = fs (p i)) ∧ ∀ i k : Nat, i < k → k < (zz_dr (0, fo, fc, fs, fu) j).1 → p i < p k) ∧ ∀ i : Nat, j ≤ i → (zz_dr (0, fo, fc, fs, fu) j).2.1 i = fo i ∧ (zz_dr (0, fo, fc, fs, fu) j).2.2.1 i = fc i ∧ (zz_dr (0, fo, fc, fs, fu) j).2.2.2.1 i = fs i := by
  intro j
  induction j with
  | zero => intro _; exact ⟨Nat.le_refl _, ⟨fun _ => 0, fun i hi => absurd hi (Nat.not_lt_zero _), fun i k _ hk => absurd hk (Nat.not_lt_zero _)⟩, fun i _ => ⟨rfl, rfl, rfl⟩⟩
  | succ j ih =>
    intro hj
    obtain ⟨h1, ⟨p, h2, h3⟩, h4⟩ := ih (by omega)
    show (zz_drS j (zz_dr (0, fo, fc, fs, fu) j)).1 ≤ j + 1 ∧ (∃ p : Nat → Nat, (∀ i : Nat, i < (zz_drS j (zz_dr (0, fo, fc, fs, fu) j)).1 → p i < j + 1 ∧ (zz_drS j (zz_dr (0, fo, fc, fs, fu) j)).2.1 i = fo (p i) ∧ (zz_drS j (zz_dr (0, fo, fc, fs, fu) j)).2.2.1 i = fc (p i) ∧ (zz_drS j (zz_dr (0, fo, fc, fs, fu) j)).2.2.2.1 i = fs (p i)) ∧ ∀ i k : Nat, i < k → k < (zz_drS j (zz_dr (0, fo, fc, fs, fu) j)).1 → p i < p k) ∧ ∀ i : Nat, j + 1 ≤ i → (zz_drS j (zz_dr (0, fo, fc, fs, fu) j)).2.1 i = fo i ∧ (zz_drS j (zz_dr (0, fo, fc, fs, fu) j)).2.2.1 i = fc i ∧ (zz_drS j (zz_dr (0, fo, fc, fs, fu) j)).2.2.2.1 i = fs i
    generalize zz_dr (0, fo, fc, fs, fu) j = s at h1 h2 h3 h4 ⊢
    obtain ⟨k, go, gc, gs, gu⟩ := s
    simp only at h1 h2 h3 h4
    unfold zz_drS
    by_cases hp : 0 < (gu j).toInt
    · simp only [if_pos hp]
      rw [zz_cl (show k < 2147483648 by omega)]
      have hj4 := h4 j (Nat.le_refl _)
      refine ⟨by omega, ⟨fun i => if i = k then j else p i, fun i hi => ?_, fun i m him hm => ?_⟩, fun i hi => ?_⟩
      · by_cases e : i = k
        · simp only [if_pos e]
          rw [e, zz_up_s, zz_up_s, zz_up_s]
          exact ⟨by omega, hj4⟩
        · simp only [if_neg e]
          rw [zz_up_n e, zz_up_n e, zz_up_n e]
          have := h2 i (by omega)
          exact ⟨by omega, this.2⟩
      · by_cases e : m = k
        · simp only [if_pos e, if_neg (show ¬ i = k by omega)]
          exact (h2 i (by omega)).1
        · simp only [if_neg e, if_neg (show ¬ i = k by omega)]
          exact h3 i m him (by omega)
      · rw [zz_up_n (show ¬ i = k by omega), zz_up_n (show ¬ i = k by omega), zz_up_n (show ¬ i = k by omega)]
        exact h4 i (by omega)
    · simp only [if_neg hp]
      exact ⟨by omega, ⟨p, fun i hi => ⟨Nat.lt_succ_of_lt (h2 i hi).1, (h2 i hi).2⟩, h3⟩, fun i hi => h4 i (by omega)⟩
/-- no two DEBTS of one day between the same houses -/
def zz_uq (fo fc fs : Nat → Int32) (nd : Nat) : Prop := ∀ i j : Nat, i < j → j < nd → ¬ (fo i = fo j ∧ fc i = fc j ∧ fs i = fs j)
def zz_oc (fo fc : Nat → Int32) (nd : Nat) : Prop := ∀ i : Nat, i < nd → ¬ fo i = fc i
theorem zz_dr_uq {fo fc fs fu : Nat → Int32} {nd : Nat} (hn : nd ≤ 300) (h : zz_uq fo fc fs nd) : zz_uq (zz_dr (0, fo, fc, fs, fu) nd).2.1 (zz_dr (0, fo, fc, fs, fu) nd).2.2.1 (zz_dr (0, fo, fc, fs, fu) nd).2.2.2.1 (zz_dr (0, fo, fc, fs, fu) nd).1 := by
  obtain ⟨_, ⟨p, h2, h3⟩, _⟩ := zz_dr_sub (fo := fo) (fc := fc) (fs := fs) (fu := fu) hn nd (Nat.le_refl _)
  intro i j hij hj z
  have a := h2 i (by omega)
  have b := h2 j hj
  refine h (p i) (p j) (h3 i j hij hj) b.1 ⟨?_, ?_, ?_⟩
  · rw [← a.2.1, ← b.2.1]; exact z.1
  · rw [← a.2.2.1, ← b.2.2.1]; exact z.2.1
  · rw [← a.2.2.2, ← b.2.2.2]; exact z.2.2
theorem zz_dr_oc {fo fc fs fu : Nat → Int32} {nd : Nat} (hn : nd ≤ 300) (h : zz_oc fo fc nd) : zz_oc (zz_dr (0, fo, fc, fs, fu) nd).2.1 (zz_dr (0, fo, fc, fs, fu) nd).2.2.1 (zz_dr (0, fo, fc, fs, fu) nd).1 := by
  obtain ⟨_, ⟨p, h2, _⟩, _⟩ := zz_dr_sub (fo := fo) (fc := fc) (fs := fs) (fu := fu) hn nd (Nat.le_refl _)
  intro i hi z
  have a := h2 i hi
  exact h (p i) a.1 (by rw [← a.2.1, ← a.2.2.1]; exact z)
theorem zz_dr_le {fo fc fs fu : Nat → Int32} {nd : Nat} (hn : nd ≤ 300) : (zz_dr (0, fo, fc, fs, fu) nd).1 ≤ nd := (zz_dr_sub hn nd (Nat.le_refl _)).1
/-- lessening -/
def zz_leS (fo fc : Nat → Int32) (x w : Int32) (j : Nat) (s : Int32 × (Nat → Int32)) : Int32 × (Nat → Int32) := if fo j = x ∧ fc j = w then (s.1 - (if s.2 j < s.1 then s.2 j else s.1), upd s.2 (Int32.toNatClampNeg (nI j)) (s.2 j - (if s.2 j < s.1 then s.2 j else s.1))) else s
def zz_le (fo fc : Nat → Int32) (x w : Int32) (s : Int32 × (Nat → Int32)) : Nat → Int32 × (Nat → Int32)
  | 0 => s
  | j + 1 => zz_leS fo fc x w j (zz_le fo fc x w s j)
theorem zz_le_y {fo fc gu : Nat → Int32} {x w y n : Int32} {s0 : Int32 × (Nat → Int32)} {j : Nat} (h : (y, gu) = zz_le fo fc x w s0 j) (hm : fo j = x ∧ fc j = w) (hn : n = if gu j < y then gu j else y) : (y - n, upd gu (Int32.toNatClampNeg (nI j)) (gu j - n)) = zz_le fo fc x w s0 (j + 1) := by
  show _ = zz_leS fo fc x w j (zz_le fo fc x w s0 j)
  rw [← h, hn]
  unfold zz_leS
  exact (if_pos hm).symm
theorem zz_le_n {fo fc gu : Nat → Int32} {x w y : Int32} {s0 : Int32 × (Nat → Int32)} {j : Nat} (h : (y, gu) = zz_le fo fc x w s0 j) (hm : ¬ (fo j = x ∧ fc j = w)) : (y, gu) = zz_le fo fc x w s0 (j + 1) := by
  show _ = zz_leS fo fc x w j (zz_le fo fc x w s0 j)
  rw [← h]
  unfold zz_leS
  exact (if_neg hm).symm
theorem zz_min_r {u y : Int32} {b : Int} (hu : 0 ≤ u.toInt ∧ u.toInt ≤ b) (hy : 0 ≤ y.toInt) : 0 ≤ (if u < y then u else y).toInt ∧ (if u < y then u else y).toInt ≤ u.toInt ∧ (if u < y then u else y).toInt ≤ y.toInt := by
  by_cases c : u < y
  · rw [if_pos c]; rw [Int32.lt_iff_toInt_lt] at c; omega
  · rw [if_neg c]; rw [Int32.lt_iff_toInt_lt] at c; omega
theorem zz_le_r {fo fc fu : Nat → Int32} {x w p : Int32} {nd : Nat} {bu : Int} (hn : nd ≤ 300) (hr : zz_rg fu nd 0 bu) (hp : 0 ≤ p.toInt) : ∀ j : Nat, j ≤ nd → (0 ≤ (zz_le fo fc x w (p, fu) j).1.toInt ∧ (zz_le fo fc x w (p, fu) j).1.toInt ≤ p.toInt) ∧ zz_rg (zz_le fo fc x w (p, fu) j).2 nd 0 bu := by
  intro j
  induction j with
  | zero => intro _; exact ⟨⟨hp, Int.le_refl _⟩, hr⟩
  | succ j ih =>
    intro hj
    obtain ⟨h1, h2⟩ := ih (by omega)
    show (0 ≤ (zz_leS fo fc x w j (zz_le fo fc x w (p, fu) j)).1.toInt ∧ (zz_leS fo fc x w j (zz_le fo fc x w (p, fu) j)).1.toInt ≤ p.toInt) ∧ zz_rg (zz_leS fo fc x w j (zz_le fo fc x w (p, fu) j)).2 nd 0 bu
    generalize zz_le fo fc x w (p, fu) j = s at h1 h2 ⊢
    obtain ⟨y, gu⟩ := s
    simp only at h1 h2
    unfold zz_leS
    by_cases c : fo j = x ∧ fc j = w
    · simp only [if_pos c]
      have hu := h2 j (by omega)
      have hm := zz_min_r hu h1.1
      generalize (if gu j < y then gu j else y) = n at hm ⊢
      refine ⟨?_, ?_⟩
      · rw [zz_subI (by omega) (by omega)]; omega
      · exact zz_rg_set h2 (by rw [zz_subI (by omega) (by omega)]; omega)
    · simp only [if_neg c]
      exact ⟨h1, h2⟩
theorem zz_le_stop {fo fc fu gu : Nat → Int32} {x w p y : Int32} {nd j : Nat} {bu : Int} (hn : nd ≤ 300) (hr : zz_rg fu nd 0 bu) (hp : 0 ≤ p.toInt) (h : (y, gu) = zz_le fo fc x w (p, fu) j) (hj : j ≤ nd) (hy : y.toInt ≤ 0) : (y, gu) = zz_le fo fc x w (p, fu) nd := by
  have key : ∀ d : Nat, j + d ≤ nd → (y, gu) = zz_le fo fc x w (p, fu) (j + d) := by
    intro d
    induction d with
    | zero => intro _; exact h
    | succ d ih =>
      intro hd
      have e := ih (by omega)
      have r := zz_le_r (fo := fo) (fc := fc) (x := x) (w := w) hn hr hp (j + d) (by omega)
      rw [← e] at r
      by_cases c : fo (j + d) = x ∧ fc (j + d) = w
      · have q := zz_le_y e c rfl
        have hu := r.2 (j + d) (by omega)
        have y0 : y = 0 := by rw [← Int32.toInt_inj, show (0 : Int32).toInt = 0 from by decide]; have := r.1.1; show y.toInt = 0; simp only at this; omega
        have nl : ¬ gu (j + d) < y := by rw [Int32.lt_iff_toInt_lt, y0, show (0 : Int32).toInt = 0 from by decide]; simp only at hu; omega
        rw [if_neg nl, y0, Int32.sub_zero, Int32.sub_zero, zz_updc (by omega), zz_upd0] at q
        rw [y0]; exact q
      · exact zz_le_n e c
  have := key (nd - j) (by omega)
  rw [show j + (nd - j) = nd by omega] at this
  exact this
/-- a new debt, or more of one of the same day -/
def zz_mq3 (fo fc fs : Nat → Int32) (x w d : Int32) (q : Nat) : Prop := fo q = x ∧ fc q = w ∧ fs q = d
def zz_pt (fo fc fs fu : Nat → Int32) (nd : Nat) (x w d y : Int32) (n2 : Nat) (o2 c2 s2 u2 : Nat → Int32) : Prop := (y.toInt ≤ 0 ∧ n2 = nd ∧ o2 = fo ∧ c2 = fc ∧ s2 = fs ∧ u2 = fu) ∨ (0 < y.toInt ∧ (∃ q : Nat, q < nd ∧ zz_mq3 fo fc fs x w d q ∧ u2 = upd fu q (fu q + y)) ∧ n2 = nd ∧ o2 = fo ∧ c2 = fc ∧ s2 = fs) ∨ (0 < y.toInt ∧ (∀ q : Nat, q < nd → ¬ zz_mq3 fo fc fs x w d q) ∧ n2 = nd + 1 ∧ o2 = upd fo nd x ∧ c2 = upd fc nd w ∧ s2 = upd fs nd d ∧ u2 = upd fu nd y)
theorem zz_uq_one {fo fc fs : Nat → Int32} {nd i j : Nat} {x w d : Int32} (h : zz_uq fo fc fs nd) (hi : i < nd) (hj : j < nd) (a : zz_mq3 fo fc fs x w d i) (b : zz_mq3 fo fc fs x w d j) : i = j := by
  rcases Nat.lt_trichotomy i j with z | z | z
  · exact absurd ⟨a.1.trans b.1.symm, a.2.1.trans b.2.1.symm, a.2.2.trans b.2.2.symm⟩ (h i j z hj)
  · exact z
  · exact absurd ⟨b.1.trans a.1.symm, b.2.1.trans a.2.1.symm, b.2.2.trans a.2.2.symm⟩ (h j i z hi)
theorem zz_pt_det {fo fc fs fu : Nat → Int32} {nd n2 n3 : Nat} {x w d y : Int32} {o2 c2 s2 u2 o3 c3 s3 u3 : Nat → Int32} (h : zz_uq fo fc fs nd) (a : zz_pt fo fc fs fu nd x w d y n2 o2 c2 s2 u2) (b : zz_pt fo fc fs fu nd x w d y n3 o3 c3 s3 u3) : n2 = n3 ∧ o2 = o3 ∧ c2 = c3 ∧ s2 = s3 ∧ u2 = u3 := by
  rcases a with ⟨a0, a1, a2, a3, a4, a5⟩ | ⟨a0, ⟨q, hq, mq, a5⟩, a1, a2, a3, a4⟩ | ⟨a0, aq, a1, a2, a3, a4, a5⟩ <;> rcases b with ⟨b0, b1, b2, b3, b4, b5⟩ | ⟨b0, ⟨r, hr, mr, b5⟩, b1, b2, b3, b4⟩ | ⟨b0, bq, b1, b2, b3, b4, b5⟩
  · exact ⟨a1.trans b1.symm, a2.trans b2.symm, a3.trans b3.symm, a4.trans b4.symm, a5.trans b5.symm⟩
  · exact absurd b0 (by omega)
  · exact absurd b0 (by omega)
  · exact absurd a0 (by omega)
  · have e := zz_uq_one h hq hr mq mr
    subst e
    exact ⟨a1.trans b1.symm, a2.trans b2.symm, a3.trans b3.symm, a4.trans b4.symm, a5.trans b5.symm⟩
  · exact absurd mq (bq q hq)
  · exact absurd a0 (by omega)
  · exact absurd mr (aq r hr)
  · exact ⟨a1.trans b1.symm, a2.trans b2.symm, a3.trans b3.symm, a4.trans b4.symm, a5.trans b5.symm⟩
theorem zz_pt_uq {fo fc fs fu : Nat → Int32} {nd n2 : Nat} {x w d y : Int32} {o2 c2 s2 u2 : Nat → Int32} (h : zz_uq fo fc fs nd) (a : zz_pt fo fc fs fu nd x w d y n2 o2 c2 s2 u2) : zz_uq o2 c2 s2 n2 := by
  rcases a with ⟨a0, a1, a2, a3, a4, a5⟩ | ⟨a0, _, a1, a2, a3, a4⟩ | ⟨a0, aq, a1, a2, a3, a4, a5⟩
  · rw [a1, a2, a3, a4]; exact h
  · rw [a1, a2, a3, a4]; exact h
  · rw [a1, a2, a3, a4]
    intro i j hij hj z
    by_cases e : j = nd
    · rw [e, zz_up_s, zz_up_s, zz_up_s, zz_up_n (show ¬ i = nd by omega), zz_up_n (show ¬ i = nd by omega), zz_up_n (show ¬ i = nd by omega)] at z
      exact aq i (by omega) z
    · rw [zz_up_n e, zz_up_n e, zz_up_n e, zz_up_n (show ¬ i = nd by omega), zz_up_n (show ¬ i = nd by omega), zz_up_n (show ¬ i = nd by omega)] at z
      exact h i j hij (by omega) z
theorem zz_pt_oc {fo fc fs fu : Nat → Int32} {nd n2 : Nat} {x w d y : Int32} {o2 c2 s2 u2 : Nat → Int32} (h : zz_oc fo fc nd) (hx : ¬ x = w) (a : zz_pt fo fc fs fu nd x w d y n2 o2 c2 s2 u2) : zz_oc o2 c2 n2 := by
  rcases a with ⟨a0, a1, a2, a3, a4, a5⟩ | ⟨a0, _, a1, a2, a3, a4⟩ | ⟨a0, aq, a1, a2, a3, a4, a5⟩
  · rw [a1, a2, a3]; exact h
  · rw [a1, a2, a3]; exact h
  · rw [a1, a2, a3]
    intro i hi z
    by_cases e : i = nd
    · rw [e, zz_up_s, zz_up_s] at z; exact hx z
    · rw [zz_up_n e, zz_up_n e] at z; exact h i (by omega) z
/-- what work between two houses makes of the DEBTS -/
def zz_owD (fo fc fs fu : Nat → Int32) (nd : Nat) (h o d sm : Int32) (n2 : Nat) (o2 c2 s2 u2 : Nat → Int32) : Prop := zz_pt (zz_dr (0, fo, fc, fs, (zz_le fo fc h o (sm, fu) nd).2) nd).2.1 (zz_dr (0, fo, fc, fs, (zz_le fo fc h o (sm, fu) nd).2) nd).2.2.1 (zz_dr (0, fo, fc, fs, (zz_le fo fc h o (sm, fu) nd).2) nd).2.2.2.1 (zz_dr (0, fo, fc, fs, (zz_le fo fc h o (sm, fu) nd).2) nd).2.2.2.2 (zz_dr (0, fo, fc, fs, (zz_le fo fc h o (sm, fu) nd).2) nd).1 o h d (zz_le fo fc h o (sm, fu) nd).1 n2 o2 c2 s2 u2
theorem zz_owD_of {fo fc fs fu gu : Nat → Int32} {nd k : Nat} {h o d sm y : Int32} {o1 c1 s1 u1 : Nat → Int32} {n2 : Nat} {o2 c2 s2 u2 : Nat → Int32} (e1 : (y, gu) = zz_le fo fc h o (sm, fu) nd) (e2 : (k, o1, c1, s1, u1) = zz_dr (0, fo, fc, fs, gu) nd) (e3 : zz_pt o1 c1 s1 u1 k o h d y n2 o2 c2 s2 u2) : zz_owD fo fc fs fu nd h o d sm n2 o2 c2 s2 u2 := by
  unfold zz_owD
  rw [← e1]
  simp only
  rw [← e2]
  exact e3
theorem zz_owD_det {fo fc fs fu : Nat → Int32} {nd n2 n3 : Nat} {h o d sm : Int32} {o2 c2 s2 u2 o3 c3 s3 u3 : Nat → Int32} (hn : nd ≤ 300) (hu : zz_uq fo fc fs nd) (a : zz_owD fo fc fs fu nd h o d sm n2 o2 c2 s2 u2) (b : zz_owD fo fc fs fu nd h o d sm n3 o3 c3 s3 u3) : n2 = n3 ∧ o2 = o3 ∧ c2 = c3 ∧ s2 = s3 ∧ u2 = u3 := zz_pt_det (zz_dr_uq hn hu) a b
theorem zz_owD_uq {fo fc fs fu : Nat → Int32} {nd n2 : Nat} {h o d sm : Int32} {o2 c2 s2 u2 : Nat → Int32} (hn : nd ≤ 300) (hu : zz_uq fo fc fs nd) (a : zz_owD fo fc fs fu nd h o d sm n2 o2 c2 s2 u2) : zz_uq o2 c2 s2 n2 := zz_pt_uq (zz_dr_uq hn hu) a
theorem zz_owD_oc {fo fc fs fu : Nat → Int32} {nd n2 : Nat} {h o d sm : Int32} {o2 c2 s2 u2 : Nat → Int32} (hn : nd ≤ 300) (hu : zz_oc fo fc nd) (hx : ¬ o = h) (a : zz_owD fo fc fs fu nd h o d sm n2 o2 c2 s2 u2) : zz_oc o2 c2 n2 := zz_pt_oc (zz_dr_oc hn hu) hx a
/-- sums over the DEBTS -/
def zz_su (fo fc fu : Nat → Int32) (x w : Int32) : Nat → Int32
  | 0 => 0
  | j + 1 => zz_su fo fc fu x w j + (if fo j = x ∧ fc j = w then fu j else 0)
theorem zz_su_y {fo fc fu : Nat → Int32} {x w y : Int32} {j : Nat} (h : y = zz_su fo fc fu x w j) (hm : fo j = x ∧ fc j = w) : y + fu j = zz_su fo fc fu x w (j + 1) := by
  rw [zz_su, if_pos hm, h]
theorem zz_su_n {fo fc fu : Nat → Int32} {x w y : Int32} {j : Nat} (h : y = zz_su fo fc fu x w j) (hm : ¬ (fo j = x ∧ fc j = w)) : y = zz_su fo fc fu x w (j + 1) := by
  rw [zz_su, if_neg hm, h, Int32.add_zero]
theorem zz_su_0 {fo fc fu : Nat → Int32} {x w y : Int32} {j : Nat} (h : y = zz_su fo fc fu x w j) (hm : ¬ (fo j = x ∧ fc j = w)) : y + 0 = zz_su fo fc fu x w (j + 1) := by
  rw [zz_su, if_neg hm, h]
def zz_nc (fo fc fu : Nat → Int32) (x : Int32) : Nat → Int32
  | 0 => 0
  | j + 1 => zz_nc fo fc fu x j + (if fc j = x then fu j else 0) - (if fo j = x then fu j else 0)
theorem zz_nc_c {fo fc fu : Nat → Int32} {x y : Int32} {j : Nat} (h : y = zz_nc fo fc fu x j) (hc : fc j = x) (ho : ¬ fo j = fc j) : y + fu j = zz_nc fo fc fu x (j + 1) := by
  rw [zz_nc, if_pos hc, if_neg (fun z => ho (z.trans hc.symm)), h, Int32.sub_zero]
theorem zz_nc_o {fo fc fu : Nat → Int32} {x y : Int32} {j : Nat} (h : y = zz_nc fo fc fu x j) (hc : ¬ fc j = x) (ho : fo j = x) : y - fu j = zz_nc fo fc fu x (j + 1) := by
  rw [zz_nc, if_neg hc, if_pos ho, h, Int32.add_zero]
theorem zz_nc_n {fo fc fu : Nat → Int32} {x y : Int32} {j : Nat} (h : y = zz_nc fo fc fu x j) (hc : ¬ fc j = x) (ho : ¬ fo j = x) : y = zz_nc fo fc fu x (j + 1) := by
  rw [zz_nc, if_neg hc, if_neg ho, h, Int32.add_zero, Int32.sub_zero]
theorem zz_nc_r {fo fc fu : Nat → Int32} {x y u v : Int32} {j : Nat} (h : y = zz_nc fo fc fu x j) (hu : u = if fc j = x then fu j else 0) (hv : v = if fo j = x then fu j else 0) : y + u - v = zz_nc fo fc fu x (j + 1) := by
  rw [zz_nc, hu, hv, h]
/-- the first of them -/
def zz_ft1 (fo fc fs : Nat → Int32) (x w : Int32) (nd : Nat) (r : Int32) : Prop := (∃ q : Nat, q < nd ∧ (fo q = x ∧ fc q = w) ∧ (∀ i : Nat, i < q → ¬ (fo i = x ∧ fc i = w)) ∧ r = fs q) ∨ ((∀ i : Nat, i < nd → ¬ (fo i = x ∧ fc i = w)) ∧ r = -1)
theorem zz_nox {P : Nat → Prop} {i : Nat} (h : ∀ u : Nat, u < i → ¬ P u) (hi : ¬ P i) : ∀ u : Nat, u < i + 1 → ¬ P u := by
  intro u hu
  by_cases e : u = i
  · subst e; exact hi
  · exact h u (by omega)
