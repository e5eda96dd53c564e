/-- an order of all the fields that wait -/
def zz_pm (od : Nat → Int32) (wt : Nat) (R : Nat → Prop) : Prop := zz_or od wt R ∧ ∀ q : Nat, R q → ∃ i : Nat, i < wt ∧ od i = nI q
theorem zz_fdiff (A P : Nat → Int32) : ∀ n : Nat, (∀ k : Nat, k < n → P k = A k) ∨ ∃ j : Nat, j < n ∧ (∀ k : Nat, k < j → P k = A k) ∧ ¬ P j = A j := by
  intro n
  induction n with
  | zero => exact Or.inl (fun k hk => absurd hk (Nat.not_lt_zero _))
  | succ n ih =>
    rcases ih with h | ⟨j, hj, h1, h2⟩
    · by_cases e : P n = A n
      · refine Or.inl (fun k hk => ?_)
        by_cases z : k = n
        · rw [z]; exact e
        · exact h k (by omega)
      · exact Or.inr ⟨n, by omega, h, e⟩
    · exact Or.inr ⟨j, by omega, h1, h2⟩
theorem zz_lx_first {A P : Nat → Int32} {wt : Nat} {R : Nat → Prop} (a : zz_or A wt R) (p : zz_or P wt R) (h : zz_lx A wt < zz_lx P wt) : ∃ j : Nat, j < wt ∧ (∀ k : Nat, k < j → P k = A k) ∧ (A j).toInt < (P j).toInt := by
  rcases zz_fdiff A P wt with e | ⟨j, hj, h1, h2⟩
  · rw [zz_lx_eq wt e] at h; exact absurd h (Nat.lt_irrefl _)
  · refine ⟨j, hj, h1, ?_⟩
    rcases Int.lt_or_le (A j).toInt (P j).toInt with z | z
    · exact z
    · have z2 : (P j).toInt < (A j).toInt := by
        rcases Int.lt_or_eq_of_le z with w | w
        · exact w
        · exact absurd (Int32.toInt_inj.mp w) h2
      have := zz_lx_lt p a hj (fun k hk => (h1 k hk).symm) z2 wt hj (Nat.le_refl _)
      omega
theorem zz_lx_inj {A P : Nat → Int32} {wt : Nat} {R : Nat → Prop} (a : zz_or A wt R) (p : zz_or P wt R) (h : zz_lx A wt = zz_lx P wt) : ∀ k : Nat, k < wt → P k = A k := by
  rcases zz_fdiff A P wt with e | ⟨j, hj, h1, h2⟩
  · exact e
  · rcases Int.lt_trichotomy (A j).toInt (P j).toInt with z | z | z
    · have := zz_lx_lt a p hj h1 z wt hj (Nat.le_refl _); omega
    · exact absurd (Int32.toInt_inj.mp z.symm) h2
    · have := zz_lx_lt p a hj (fun k hk => (h1 k hk).symm) z wt hj (Nat.le_refl _); omega
/-- where an order differs from another first, it takes a later one of it -/
theorem zz_later {A P : Nat → Int32} {wt j : Nat} {R : Nat → Prop} (a : zz_pm A wt R) (p : zz_or P wt R) (hj : j < wt) (h1 : ∀ k : Nat, k < j → P k = A k) (h2 : ¬ P j = A j) : ∃ i : Nat, j < i ∧ i < wt ∧ P j = A i := by
  obtain ⟨q, hR, hq, e⟩ := p.1 j hj
  obtain ⟨i, hi, ei⟩ := a.2 q hR
  refine ⟨i, ?_, hi, by rw [e, ei]⟩
  rcases Nat.lt_trichotomy j i with z | z | z
  · exact z
  · rw [← z, ← e] at ei; exact absurd ei.symm h2
  · have : P i = P j := by rw [h1 i z, ei, e]
    have := p.2 i j hi hj this
    omega
def zz_dsc (A : Nat → Int32) (i wt : Nat) : Prop := ∀ k : Nat, i ≤ k → k + 1 < wt → (A (k + 1)).toInt < (A k).toInt
def zz_asc (A : Nat → Int32) (i wt : Nat) : Prop := ∀ k : Nat, i ≤ k → k + 1 < wt → (A k).toInt < (A (k + 1)).toInt
theorem zz_dsc_lt {A : Nat → Int32} {i wt j : Nat} (h : zz_dsc A i wt) (hi : i ≤ j) : ∀ k : Nat, j < k → k < wt → (A k).toInt < (A j).toInt := by
  intro k
  induction k with
  | zero => intro z; exact absurd z (Nat.not_lt_zero _)
  | succ k ih =>
    intro z1 z2
    have a := h k (by omega) z2
    by_cases e : k = j
    · rw [e] at a ⊢; exact a
    · have := ih (by omega) (by omega); omega
theorem zz_asc_lt {A : Nat → Int32} {i wt j : Nat} (h : zz_asc A i wt) (hi : i ≤ j) : ∀ k : Nat, j < k → k < wt → (A j).toInt < (A k).toInt := by
  intro k
  induction k with
  | zero => intro z; exact absurd z (Nat.not_lt_zero _)
  | succ k ih =>
    intro z1 z2
    have a := h k (by omega) z2
    by_cases e : k = j
    · rw [e] at a ⊢; exact a
    · have := ih (by omega) (by omega); omega
/-- the last order -/
theorem zz_last {A : Nat → Int32} {wt : Nat} {R : Nat → Prop} (a : zz_pm A wt R) (hd : zz_dsc A 0 wt) : ∀ P : Nat → Int32, zz_pm P wt R → zz_lx P wt ≤ zz_lx A wt := by
  intro P p
  rcases Nat.lt_or_ge (zz_lx A wt) (zz_lx P wt) with z | z
  · obtain ⟨j, hj, h1, h2⟩ := zz_lx_first a.1 p.1 z
    obtain ⟨i, i1, i2, i3⟩ := zz_later a p.1 hj h1 (fun e => by rw [e] at h2; omega)
    have := zz_dsc_lt hd (Nat.zero_le j) i i1 i2
    rw [i3] at h2; omega
  · exact z
/-- the first order -/
theorem zz_frst {A : Nat → Int32} {wt : Nat} {R : Nat → Prop} (a : zz_pm A wt R) (hd : zz_asc A 0 wt) : ∀ P : Nat → Int32, zz_pm P wt R → zz_lx A wt ≤ zz_lx P wt := by
  intro P p
  rcases Nat.lt_or_ge (zz_lx P wt) (zz_lx A wt) with z | z
  · obtain ⟨j, hj, h1, h2⟩ := zz_lx_first p.1 a.1 z
    obtain ⟨i, i1, i2, i3⟩ := zz_later a p.1 hj (fun k hk => (h1 k hk).symm) (fun e => by rw [e] at h2; omega)
    have := zz_asc_lt hd (Nat.zero_le j) i i1 i2
    rw [i3] at h2; omega
  · exact z
/-- nothing lies between an order and the next -/
theorem zz_succ {A B : Nat → Int32} {wt i kk : Nat} {R : Nat → Prop} (a : zz_pm A wt R) (b : zz_pm B wt R) (hi : i < wt) (hd : zz_dsc A (i + 1) wt) (hk : i < kk ∧ kk < wt) (hk1 : (A i).toInt < (A kk).toInt) (hk2 : ∀ k : Nat, kk < k → k < wt → (A k).toInt < (A i).toInt) (b1 : ∀ k : Nat, k < i → B k = A k) (b2 : B i = A kk) (b3 : zz_asc B (i + 1) wt) : ∀ P : Nat → Int32, zz_pm P wt R → zz_lx A wt < zz_lx P wt → zz_lx B wt ≤ zz_lx P wt := by
  intro P p hl
  obtain ⟨j, hj, h1, h2⟩ := zz_lx_first a.1 p.1 hl
  have hne : ¬ P j = A j := fun e => by rw [e] at h2; omega
  obtain ⟨r, r1, r2, r3⟩ := zz_later a p.1 hj h1 hne
  rcases Nat.lt_trichotomy j i with z | z | z
  · have : (B j).toInt < (P j).toInt := by rw [b1 j z]; exact h2
    exact Nat.le_of_lt (zz_lx_lt b.1 p.1 hj (fun k hk => by rw [h1 k hk, b1 k (by omega)]) this wt hj (Nat.le_refl _))
  · subst z
    have agree : ∀ k : Nat, k < j → P k = B k := fun k hk => by rw [h1 k hk, b1 k hk]
    have rk : r ≤ kk := by
      rcases Nat.lt_or_ge kk r with w | w
      · have := hk2 r w r2; rw [r3] at h2; omega
      · exact w
    by_cases e : r = kk
    · have eP : P j = B j := by rw [r3, b2, e]
      rcases zz_fdiff B P wt with w | ⟨c, hc, c1, c2⟩
      · rw [zz_lx_eq wt w]; exact Nat.le_refl _
      · have cj : j < c := by
          rcases Nat.lt_trichotomy c j with w | w | w
          · exact absurd (agree c w) c2
          · rw [w] at c2; exact absurd eP c2
          · exact w
        obtain ⟨d, d1, d2, d3⟩ := zz_later b p.1 hc c1 c2
        have := zz_asc_lt b3 (show j + 1 ≤ c by omega) d d1 d2
        exact Nat.le_of_lt (zz_lx_lt b.1 p.1 hc c1 (by rw [d3]; exact this) wt hc (Nat.le_refl _))
    · have := zz_dsc_lt hd (show j + 1 ≤ r by omega) kk (by omega) hk.2
      exact Nat.le_of_lt (zz_lx_lt b.1 p.1 hj agree (by rw [b2, r3]; exact this) wt hj (Nat.le_refl _))
  · have := zz_dsc_lt hd (show i + 1 ≤ j by omega) r r1 r2
    rw [r3] at h2; omega
theorem zz_sw_pm {od : Nat → Int32} {wt i k : Nat} {R : Nat → Prop} (h : zz_pm od wt R) (hi : i < wt) (hk : k < wt) : zz_pm (zz_sw od i k) wt R := by
  refine ⟨zz_sw_or h.1 hi hk, fun q hq => ?_⟩
  obtain ⟨j, hj, e⟩ := h.2 q hq
  by_cases e1 : j = i
  · refine ⟨k, hk, ?_⟩
    unfold zz_sw
    rw [if_pos rfl, ← e1]; exact e
  · by_cases e2 : j = k
    · exact ⟨i, hi, by rw [zz_sw_i, ← e2]; exact e⟩
    · exact ⟨j, hj, by rw [zz_sw_out e1 e2]; exact e⟩
/-- after the swap what follows still falls -/
theorem zz_dsc_sw {A : Nat → Int32} {wt i kk : Nat} (hd : zz_dsc A (i + 1) wt) (hk : i < kk ∧ kk < wt) (hk1 : (A i).toInt < (A kk).toInt) (hk2 : ∀ k : Nat, kk < k → k < wt → (A k).toInt < (A i).toInt) : zz_dsc (zz_sw A i kk) (i + 1) wt := by
  intro k h1 h2
  have v : ∀ x : Nat, i < x → zz_sw A i kk x = if x = kk then A i else A x := by
    intro x hx
    unfold zz_sw
    by_cases e : x = kk
    · rw [if_pos e, if_pos e]
    · rw [if_neg e, if_neg e, if_neg (by omega)]
  rw [v k (by omega), v (k + 1) (by omega)]
  have d := hd k h1 h2
  by_cases e1 : k = kk
  · rw [if_pos e1, if_neg (by omega)]; exact hk2 (k + 1) (by omega) h2
  · rw [if_neg e1]
    by_cases e2 : k + 1 = kk
    · rw [if_pos e2]; rw [e2] at d; omega
    · rw [if_neg e2]; exact d
/-- turning round: places below lw and above hw are mirrored -/
def zz_mir (o1 oq : Nat → Int32) (i wt lw hw : Nat) : Prop := lw + hw = wt + i ∧ (∀ k : Nat, k ≤ i → oq k = o1 k) ∧ (∀ k : Nat, i < k → k < wt → (k < lw ∨ hw < k) → oq k = o1 (wt + i - k)) ∧ ∀ k : Nat, lw ≤ k → k ≤ hw → oq k = o1 k
theorem zz_mir_0 {o1 : Nat → Int32} {i wt : Nat} (h : i < wt) : zz_mir o1 o1 i wt (i + 1) (wt - 1) := ⟨by omega, fun _ _ => rfl, fun k h1 h2 h3 => absurd h3 (by omega), fun _ _ _ => rfl⟩
theorem zz_mir_s {o1 oq : Nat → Int32} {i wt lw hw : Nat} (h : zz_mir o1 oq i wt lw hw) (hl : i < lw) (hlt : lw < hw) (hw2 : hw < wt) : zz_mir o1 (zz_sw oq lw hw) i wt (lw + 1) (hw - 1) := by
  obtain ⟨a, b, c, d⟩ := h
  refine ⟨by omega, fun k hk => by rw [zz_sw_out (by omega) (by omega)]; exact b k hk, fun k h1 h2 h3 => ?_, fun k h1 h2 => by rw [zz_sw_out (by omega) (by omega)]; exact d k (by omega) (by omega)⟩
  by_cases e1 : k = lw
  · rw [e1, zz_sw_i, d hw (by omega) (Nat.le_refl _), show wt + i - lw = hw by omega]
  · by_cases e2 : k = hw
    · unfold zz_sw
      rw [if_pos e2, d lw (Nat.le_refl _) (by omega), e2, show wt + i - hw = lw by omega]
    · rw [zz_sw_out e1 e2]; exact c k h1 h2 (by omega)
theorem zz_mir_asc {o1 oq : Nat → Int32} {i wt lw hw : Nat} (h : zz_mir o1 oq i wt lw hw) (hl : hw ≤ lw) (hd : zz_dsc o1 (i + 1) wt) : zz_asc oq (i + 1) wt := by
  obtain ⟨a, b, c, d⟩ := h
  have v : ∀ k : Nat, i < k → k < wt → oq k = o1 (wt + i - k) := by
    intro k h1 h2
    by_cases e : k < lw ∨ hw < k
    · exact c k h1 h2 e
    · have e1 : k = lw := by omega
      have e2 : k = hw := by omega
      rw [d k (by omega) (by omega), show wt + i - k = k by omega]
  intro k h1 h2
  rw [v k (by omega) (by omega), v (k + 1) (by omega) h2]
  have := hd (wt + i - (k + 1)) (by omega) (by omega)
  rw [show wt + i - (k + 1) + 1 = wt + i - k by omega] at this
  exact this
/-- the best order: the least loss, then the first -/
noncomputable def zz_co (lo va re nee : Nat → Int32) (mc h wt : Nat) (P : Nat → Int32) : Int := zz_cst (zz_lsf lo va re) (zz_stf mc re) (zz_ndf nee) h mc (zz_P P) wt
def zz_Bst (lo va re nee : Nat → Int32) (mc h wt : Nat) (R : Nat → Prop) (C : (Nat → Int32) → Prop) (r : Int32) (pl : Nat → Int32) : Prop := zz_pm pl wt R ∧ r.toInt = zz_co lo va re nee mc h wt pl ∧ ∀ P : Nat → Int32, zz_pm P wt R → C P → r.toInt < zz_co lo va re nee mc h wt P ∨ (r.toInt = zz_co lo va re nee mc h wt P ∧ zz_lx pl wt ≤ zz_lx P wt)
theorem zz_pf_cg {P Q : Nat → Nat} : ∀ n : Nat, (∀ k : Nat, k < n → P k = Q k) → zz_pf P n = zz_pf Q n
  | 0, _ => rfl
  | n + 1, h => by rw [zz_pf, zz_pf, zz_pf_cg n (fun k hk => h k (by omega)), h n (by omega)]
theorem zz_cst_cg {ls : Nat → Nat → Int} {st nd : Nat → Nat} {h t0 : Nat} {P Q : Nat → Nat} : ∀ n : Nat, (∀ k : Nat, k < n → P k = Q k) → zz_cst ls st nd h t0 P n = zz_cst ls st nd h t0 Q n
  | 0, _ => rfl
  | n + 1, e => by rw [zz_cst, zz_cst, zz_cst_cg n (fun k hk => e k (by omega)), zz_pf_cg (n + 1) e, e n (by omega)]
theorem zz_co_cg {lo va re nee : Nat → Int32} {mc h wt : Nat} {P Q : Nat → Int32} (e : ∀ k : Nat, k < wt → P k = Q k) : zz_co lo va re nee mc h wt P = zz_co lo va re nee mc h wt Q := zz_cst_cg wt (fun k hk => by unfold zz_P; rw [e k hk])
theorem zz_Bst_det {lo va re nee : Nat → Int32} {mc h wt : Nat} {R : Nat → Prop} {r1 r2 : Int32} {A B : Nat → Int32} (a : zz_Bst lo va re nee mc h wt R (fun _ => True) r1 A) (b : zz_Bst lo va re nee mc h wt R (fun _ => True) r2 B) : r1 = r2 ∧ ∀ k : Nat, k < wt → A k = B k := by
  obtain ⟨a1, a2, a3⟩ := a
  obtain ⟨b1, b2, b3⟩ := b
  have x := a3 B b1 trivial
  have y := b3 A a1 trivial
  rw [← b2] at x
  rw [← a2] at y
  have e : r1.toInt = r2.toInt := by omega
  refine ⟨Int32.toInt_inj.mp e, fun k hk => ?_⟩
  have l : zz_lx A wt = zz_lx B wt := by omega
  exact (zz_lx_inj a1.1 b1.1 l k hk).symm
theorem zz_Bst_new {lo va re nee : Nat → Int32} {mc h wt : Nat} {R : Nat → Prop} {s bs : Int32} {od pb : Nat → Int32} (o : zz_pm od wt R) (hs : s.toInt = zz_co lo va re nee mc h wt od) (old : (bs.toInt < 0 ∧ ∀ P : Nat → Int32, zz_pm P wt R → ¬ zz_lx P wt < zz_lx od wt) ∨ (zz_Bst lo va re nee mc h wt R (fun P => zz_lx P wt < zz_lx od wt) bs pb ∧ s.toInt < bs.toInt)) : zz_Bst lo va re nee mc h wt R (fun P => zz_lx P wt ≤ zz_lx od wt) s od := by
  refine ⟨o, hs, fun P p hP => ?_⟩
  by_cases e : zz_lx P wt = zz_lx od wt
  · right
    refine ⟨?_, by omega⟩
    rw [hs]
    exact zz_co_cg (fun k hk => zz_lx_inj p.1 o.1 e k hk)
  · rcases old with ⟨_, q⟩ | ⟨q, l⟩
    · exact absurd (show zz_lx P wt < zz_lx od wt by omega) (q P p)
    · left
      have := q.2.2 P p (by show zz_lx P wt < zz_lx od wt; omega)
      omega
theorem zz_Bst_old {lo va re nee : Nat → Int32} {mc h wt : Nat} {R : Nat → Prop} {s bs : Int32} {od pb : Nat → Int32} (o : zz_pm od wt R) (hs : s.toInt = zz_co lo va re nee mc h wt od) (old : zz_Bst lo va re nee mc h wt R (fun P => zz_lx P wt < zz_lx od wt) bs pb) (hl : zz_lx pb wt < zz_lx od wt) (h2 : ¬ s.toInt < bs.toInt) : zz_Bst lo va re nee mc h wt R (fun P => zz_lx P wt ≤ zz_lx od wt) bs pb := by
  refine ⟨old.1, old.2.1, fun P p hP => ?_⟩
  by_cases e : zz_lx P wt = zz_lx od wt
  · have c := zz_co_cg (lo := lo) (va := va) (re := re) (nee := nee) (mc := mc) (h := h) (fun k hk => zz_lx_inj p.1 o.1 e k hk)
    omega
  · exact old.2.2 P p (by show zz_lx P wt < zz_lx od wt; omega)
theorem zz_Bst_to {lo va re nee : Nat → Int32} {mc h wt : Nat} {R : Nat → Prop} {C D : (Nat → Int32) → Prop} {r : Int32} {pl : Nat → Int32} (a : zz_Bst lo va re nee mc h wt R C r pl) (e : ∀ P : Nat → Int32, zz_pm P wt R → D P → C P) : zz_Bst lo va re nee mc h wt R D r pl := ⟨a.1, a.2.1, fun P p d => a.2.2 P p (e P p d)⟩
