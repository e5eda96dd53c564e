def zz_sq (f : Nat → Nat) : Nat → Nat
  | 0 => 0
  | n + 1 => zz_sq f n + f n
theorem zz_sq_upd {f g : Nat → Nat} {q : Nat} (h : ∀ x : Nat, ¬ x = q → f x = g x) : ∀ n : Nat, (n ≤ q → zz_sq f n = zz_sq g n) ∧ (q < n → zz_sq f n + g q = zz_sq g n + f q) := by
  intro n
  induction n with
  | zero => exact ⟨fun _ => rfl, fun z => absurd z (Nat.not_lt_zero _)⟩
  | succ n ih =>
    refine ⟨fun z => ?_, fun z => ?_⟩
    · rw [zz_sq, zz_sq, ih.1 (by omega), h n (by omega)]
    · by_cases e : n = q
      · subst e
        rw [zz_sq, zz_sq, ih.1 (Nat.le_refl _)]; omega
      · have := ih.2 (by omega)
        rw [zz_sq, zz_sq, h n e]; omega
/-- what becomes ready on a day, of a set of fields -/
def zz_A (S : Nat → Bool) (st nd : Nat → Nat) (d : Nat) : Nat := zz_sq (fun q => if S q = true ∧ st q = d then nd q else 0) 12
def zz_ad (S : Nat → Bool) (q : Nat) : Nat → Bool := fun x => if x = q then true else S x
theorem zz_ad_s {S : Nat → Bool} {q : Nat} : zz_ad S q q = true := if_pos rfl
theorem zz_ad_n {S : Nat → Bool} {q x : Nat} (h : ¬ x = q) : zz_ad S q x = S x := if_neg h
theorem zz_A_ad {S : Nat → Bool} {st nd : Nat → Nat} {d q : Nat} (hq : q < 12) (hS : S q = false) : zz_A (zz_ad S q) st nd d = zz_A S st nd d + (if st q = d then nd q else 0) := by
  have k := (zz_sq_upd (f := fun x => if zz_ad S q x = true ∧ st x = d then nd x else 0) (g := fun x => if S x = true ∧ st x = d then nd x else 0) (q := q) (fun x hx => by simp only [zz_ad_n hx]) 12).2 hq
  simp only [zz_ad_s, hS] at k
  unfold zz_A
  by_cases e : st q = d
  · simp only [e, and_self, if_true] at k ⊢
    simpa using k
  · simp only [e, and_false, if_false] at k ⊢
    simpa using k
/-- what is left of it at the end of a day, and before the hands begin -/
def zz_W (S : Nat → Bool) (st nd : Nat → Nat) (h t0 : Nat) : Nat → Nat
  | 0 => zz_A S st nd t0 - h
  | t + 1 => zz_W S st nd h t0 t + zz_A S st nd (t0 + t + 1) - h
def zz_Wb (S : Nat → Bool) (st nd : Nat → Nat) (h t0 : Nat) : Nat → Nat
  | 0 => zz_A S st nd t0
  | t + 1 => zz_W S st nd h t0 t + zz_A S st nd (t0 + t + 1)
theorem zz_W_b {S : Nat → Bool} {st nd : Nat → Nat} {h t0 : Nat} : ∀ t : Nat, zz_W S st nd h t0 t = zz_Wb S st nd h t0 t - h
  | 0 => rfl
  | _ + 1 => rfl
/-- the day on which the last of a set is done -/
def zz_Dd (S : Nat → Bool) (st nd : Nat → Nat) (h t0 q d : Nat) : Prop := st q ≤ d ∧ t0 ≤ d ∧ zz_W S st nd h t0 (d - t0) = 0 ∧ ∀ e : Nat, st q ≤ e → e < d → ¬ zz_W S st nd h t0 (e - t0) = 0
theorem zz_Dd_det {S : Nat → Bool} {st nd : Nat → Nat} {h t0 q d e : Nat} (a : zz_Dd S st nd h t0 q d) (b : zz_Dd S st nd h t0 q e) : d = e := by
  rcases Nat.lt_trichotomy d e with z | z | z
  · exact absurd a.2.2.1 (b.2.2.2 d a.1 z)
  · exact z
  · exact absurd b.2.2.1 (a.2.2.2 e b.1 z)
noncomputable def zz_DD (S : Nat → Bool) (st nd : Nat → Nat) (h t0 q : Nat) : Nat := Classical.epsilon (fun d => zz_Dd S st nd h t0 q d)
theorem zz_DD_eq {S : Nat → Bool} {st nd : Nat → Nat} {h t0 q d : Nat} (a : zz_Dd S st nd h t0 q d) : zz_DD S st nd h t0 q = d := zz_Dd_det (Classical.epsilon_spec (p := fun d => zz_Dd S st nd h t0 q d) ⟨d, a⟩) a
/-- the first i of an order -/
def zz_pf (P : Nat → Nat) : Nat → Nat → Bool
  | 0 => fun _ => false
  | i + 1 => zz_ad (zz_pf P i) (P i)
theorem zz_pf_in {P : Nat → Nat} {x : Nat} : ∀ i : Nat, zz_pf P i x = true ↔ ∃ j : Nat, j < i ∧ P j = x := by
  intro i
  induction i with
  | zero =>
    constructor
    · intro z; exact absurd (show false = true from z) (by decide)
    · rintro ⟨j, hj, _⟩; exact absurd hj (Nat.not_lt_zero _)
  | succ i ih =>
    rw [zz_pf]
    by_cases e : x = P i
    · rw [e, zz_ad_s]
      exact ⟨fun _ => ⟨i, by omega, rfl⟩, fun _ => rfl⟩
    · rw [zz_ad_n e, ih]
      constructor
      · rintro ⟨j, hj, z⟩; exact ⟨j, by omega, z⟩
      · rintro ⟨j, hj, z⟩
        by_cases q : j = i
        · rw [q] at z; exact absurd z.symm e
        · exact ⟨j, by omega, z⟩
theorem zz_pf_no {P : Nat → Nat} {i m : Nat} (hi : ∀ a b : Nat, a < m → b < m → P a = P b → a = b) (h : i < m) : zz_pf P i (P i) = false := by
  cases w : zz_pf P i (P i) with
  | false => rfl
  | true =>
    obtain ⟨j, hj, e⟩ := (zz_pf_in i).mp w
    have := hi j i (by omega) h e
    omega
/-- what an order loses, place by place -/
noncomputable def zz_cst (ls : Nat → Nat → Int) (st nd : Nat → Nat) (h t0 : Nat) (P : Nat → Nat) : Nat → Int
  | 0 => 0
  | i + 1 => zz_cst ls st nd h t0 P i + ls (P i) (zz_DD (zz_pf P (i + 1)) st nd h t0 (P i))
/-- what lies open of the first fields of an order on a day -/
def zz_bl (l P st : Nat → Nat) (d : Nat) : Nat → Nat
  | 0 => 0
  | k + 1 => zz_bl l P st d k + (if st (P k) ≤ d then l k else 0)
theorem zz_bl_cg {l l2 P st : Nat → Nat} {d : Nat} : ∀ n : Nat, (∀ k : Nat, k < n → l k = l2 k) → zz_bl l P st d n = zz_bl l2 P st d n
  | 0, _ => rfl
  | n + 1, h => by rw [zz_bl, zz_bl, zz_bl_cg n (fun k hk => h k (by omega)), h n (by omega)]
/-- the days begin: all lies open -/
theorem zz_sd0 {P st nd : Nat → Nat} {h t0 m : Nat} (hi : ∀ a b : Nat, a < m → b < m → P a = P b → a = b) (h12 : ∀ k : Nat, k < m → P k < 12) (hs : ∀ k : Nat, k < m → t0 ≤ st (P k)) : ∀ i : Nat, i ≤ m → zz_bl (fun k => nd (P k)) P st t0 i = zz_Wb (zz_pf P i) st nd h t0 0 := by
  intro i
  induction i with
  | zero =>
    intro _
    show 0 = zz_A (fun _ => false) st nd t0
    unfold zz_A
    have : ∀ n : Nat, zz_sq (fun q => if (fun _ : Nat => false) q = true ∧ st q = t0 then nd q else 0) n = 0 := by
      intro n
      induction n with
      | zero => rfl
      | succ n ih => rw [zz_sq, ih]; simp
    exact (this 12).symm
  | succ i ih =>
    intro hm
    show _ = zz_A (zz_ad (zz_pf P i) (P i)) st nd t0
    rw [zz_A_ad (h12 i (by omega)) (zz_pf_no hi (by omega)), zz_bl, ih (by omega)]
    have := hs i (by omega)
    show zz_A (zz_pf P i) st nd t0 + _ = _
    by_cases e : st (P i) = t0
    · rw [if_pos (by omega), if_pos e]
    · rw [if_neg (by omega), if_neg e]
/-- a day ends, the next begins -/
theorem zz_sds {l P st nd : Nat → Nat} {h t0 m t : Nat} (hi : ∀ a b : Nat, a < m → b < m → P a = P b → a = b) (h12 : ∀ k : Nat, k < m → P k < 12) (he : ∀ i : Nat, i ≤ m → zz_bl l P st (t0 + t) i = zz_W (zz_pf P i) st nd h t0 t) (hn : ∀ k : Nat, k < m → t0 + t < st (P k) → l k = nd (P k)) : ∀ i : Nat, i ≤ m → zz_bl l P st (t0 + (t + 1)) i = zz_Wb (zz_pf P i) st nd h t0 (t + 1) := by
  have key : ∀ i : Nat, i ≤ m → zz_bl l P st (t0 + (t + 1)) i = zz_bl l P st (t0 + t) i + zz_A (zz_pf P i) st nd (t0 + t + 1) := by
    intro i
    induction i with
    | zero =>
      intro _
      show 0 = 0 + zz_A (fun _ => false) st nd (t0 + t + 1)
      unfold zz_A
      have : ∀ n : Nat, zz_sq (fun q => if (fun _ : Nat => false) q = true ∧ st q = t0 + t + 1 then nd q else 0) n = 0 := by
        intro n
        induction n with
        | zero => rfl
        | succ n ih => rw [zz_sq, ih]; simp
      rw [this 12]
    | succ i ih =>
      intro hm
      show _ = _ + zz_A (zz_ad (zz_pf P i) (P i)) st nd (t0 + t + 1)
      rw [zz_A_ad (h12 i (by omega)) (zz_pf_no hi (by omega)), zz_bl, zz_bl, ih (by omega)]
      by_cases e : st (P i) = t0 + t + 1
      · rw [if_pos (by omega), if_neg (by omega), if_pos e, hn i (by omega) (by omega)]; omega
      · by_cases z : st (P i) ≤ t0 + t
        · rw [if_pos (by omega), if_pos z, if_neg e]; omega
        · rw [if_neg (by omega), if_neg z, if_neg e]; omega
  intro i him
  rw [key i him, he i him]
  rfl
/-- within a day: places below i are served -/
def zz_inD (l l0 P st nd : Nat → Nat) (h t0 m t i y : Nat) : Prop := (∀ j : Nat, j ≤ i → zz_bl l P st (t0 + t) j = zz_W (zz_pf P j) st nd h t0 t) ∧ (∀ k : Nat, i ≤ k → k < m → l k = l0 k) ∧ (∀ k : Nat, k < m → t0 + t < st (P k) → l k = l0 k) ∧ y = h - zz_Wb (zz_pf P i) st nd h t0 t
theorem zz_inD_0 {l P st nd : Nat → Nat} {h t0 m t : Nat} (hs : ∀ i : Nat, i ≤ m → zz_bl l P st (t0 + t) i = zz_Wb (zz_pf P i) st nd h t0 t) : zz_inD l l P st nd h t0 m t 0 h := by
  have e := hs 0 (Nat.zero_le _)
  refine ⟨fun j hj => ?_, fun _ _ _ => rfl, fun _ _ _ => rfl, ?_⟩
  · rw [show j = 0 by omega, zz_W_b, ← e]; show 0 = 0 - h; omega
  · rw [← e]; show h = h - 0; omega
theorem zz_inD_no {l l0 P st nd : Nat → Nat} {h t0 m t i y : Nat} (hs : ∀ i : Nat, i ≤ m → zz_bl l0 P st (t0 + t) i = zz_Wb (zz_pf P i) st nd h t0 t) (hm : i < m) (H : zz_inD l l0 P st nd h t0 m t i y) (hn : l i = 0 ∨ t0 + t < st (P i)) : zz_inD l l0 P st nd h t0 m t (i + 1) y := by
  obtain ⟨a, b, c, d⟩ := H
  have e0 := hs i (by omega)
  have e1 := hs (i + 1) (by omega)
  have li := b i (Nat.le_refl _) hm
  have same : zz_Wb (zz_pf P (i + 1)) st nd h t0 t = zz_Wb (zz_pf P i) st nd h t0 t := by
    rw [← e0, ← e1, zz_bl]
    rcases hn with z | z
    · rw [← li, z]; simp
    · rw [if_neg (by omega)]; simp
  have ai := a i (Nat.le_refl _)
  refine ⟨fun j hj => ?_, fun k hk => b k (by omega), c, by rw [same]; exact d⟩
  by_cases z : j = i + 1
  · rw [z, zz_W_b, same, ← zz_W_b, zz_bl, ai]
    rcases hn with q | q
    · rw [q]; simp
    · rw [if_neg (by omega)]; simp
  · exact a j (by omega)
theorem zz_inD_go {l l0 l2 P st nd : Nat → Nat} {h t0 m t i y n : Nat} (hs : ∀ i : Nat, i ≤ m → zz_bl l0 P st (t0 + t) i = zz_Wb (zz_pf P i) st nd h t0 t) (hm : i < m) (H : zz_inD l l0 P st nd h t0 m t i y) (hst : st (P i) ≤ t0 + t) (hn : n = if l i < y then l i else y) (hl2 : ∀ k : Nat, k < m → l2 k = if k = i then l i - n else l k) : zz_inD l2 l0 P st nd h t0 m t (i + 1) (y - n) ∧ (l i - n = 0 → 1 ≤ l i → zz_W (zz_pf P (i + 1)) st nd h t0 t = 0) := by
  obtain ⟨a, b, c, d⟩ := H
  have e0 := hs i (by omega)
  have e1 := hs (i + 1) (by omega)
  have li := b i (Nat.le_refl _) hm
  have wb : zz_Wb (zz_pf P (i + 1)) st nd h t0 t = zz_Wb (zz_pf P i) st nd h t0 t + l i := by
    rw [← e0, ← e1, zz_bl, if_pos hst, li]
  have ai := a i (Nat.le_refl _)
  have wi := zz_W_b (S := zz_pf P i) (st := st) (nd := nd) (h := h) (t0 := t0) t
  have wj := zz_W_b (S := zz_pf P (i + 1)) (st := st) (nd := nd) (h := h) (t0 := t0) t
  have nn : n ≤ l i ∧ n ≤ y ∧ (n = l i ∨ n = y) := by
    rw [hn]; split <;> omega
  refine ⟨⟨fun j hj => ?_, fun k hk hkm => ?_, fun k hk hd => ?_, by omega⟩, fun z1 z2 => by omega⟩
  · by_cases z : j = i + 1
    · rw [z, zz_bl, if_pos hst, zz_bl_cg (l2 := l) i (fun k hk => by rw [hl2 k (by omega), if_neg (by omega)]), ai, hl2 i hm, if_pos rfl]
      omega
    · rw [zz_bl_cg (l2 := l) j (fun k hk => by rw [hl2 k (by omega), if_neg (by omega)])]
      exact a j (by omega)
  · rw [hl2 k hkm, if_neg (by omega)]; exact b k (by omega) hkm
  · rw [hl2 k hk]
    by_cases z : k = i
    · rw [z] at hd; omega
    · rw [if_neg z]; exact c k hk hd
/-- a field that isn't done yet has had no day without a rest -/
def zz_al (l P st nd : Nat → Nat) (h t0 m t : Nat) : Prop := ∀ k : Nat, k < m → 1 ≤ l k → ∀ e : Nat, st (P k) ≤ e → e < t0 + t → ¬ zz_W (zz_pf P (k + 1)) st nd h t0 (e - t0) = 0
theorem zz_bl_ge {l P st : Nat → Nat} {d k : Nat} (h : st (P k) ≤ d) : l k ≤ zz_bl l P st d (k + 1) := by
  rw [zz_bl, if_pos h]; omega
theorem zz_al_next {l l0 P st nd : Nat → Nat} {h t0 m t : Nat} (he : ∀ i : Nat, i ≤ m → zz_bl l P st (t0 + t) i = zz_W (zz_pf P i) st nd h t0 t) (ha : zz_al l0 P st nd h t0 m t) (hl : ∀ k : Nat, k < m → l k ≤ l0 k) : zz_al l P st nd h t0 m (t + 1) := by
  intro k hk h1 e h2 h3
  by_cases z : e = t0 + t
  · rw [z, show t0 + t - t0 = t by omega, ← he (k + 1) (by omega)]
    have := zz_bl_ge (l := l) (k := k) (show st (P k) ≤ t0 + t by omega)
    omega
  · exact ha k hk (by have := hl k hk; omega) e h2 (by omega)
theorem zz_Dd_of {l0 P st nd : Nat → Nat} {h t0 m t k : Nat} (ha : zz_al l0 P st nd h t0 m t) (hk : k < m) (h1 : 1 ≤ l0 k) (hs : st (P k) ≤ t0 + t) (hw : zz_W (zz_pf P (k + 1)) st nd h t0 t = 0) : zz_Dd (zz_pf P (k + 1)) st nd h t0 (P k) (t0 + t) := ⟨hs, by omega, by rw [show t0 + t - t0 = t by omega]; exact hw, fun e h2 h3 => ha k hk h1 e h2 h3⟩
/-- what the fields that are done have lost -/
noncomputable def zz_sdn (ls : Nat → Nat → Int) (st nd : Nat → Nat) (h t0 : Nat) (l P : Nat → Nat) : Nat → Int
  | 0 => 0
  | k + 1 => zz_sdn ls st nd h t0 l P k + (if l k = 0 then ls (P k) (zz_DD (zz_pf P (k + 1)) st nd h t0 (P k)) else 0)
theorem zz_sdn_0 {ls : Nat → Nat → Int} {st nd : Nat → Nat} {h t0 : Nat} {l P : Nat → Nat} : ∀ n : Nat, (∀ k : Nat, k < n → 1 ≤ l k) → zz_sdn ls st nd h t0 l P n = 0
  | 0, _ => rfl
  | n + 1, hl => by rw [zz_sdn, zz_sdn_0 n (fun k hk => hl k (by omega)), if_neg (by have := hl n (by omega); omega)]; rfl
theorem zz_sdn_all {ls : Nat → Nat → Int} {st nd : Nat → Nat} {h t0 : Nat} {l P : Nat → Nat} : ∀ n : Nat, (∀ k : Nat, k < n → l k = 0) → zz_sdn ls st nd h t0 l P n = zz_cst ls st nd h t0 P n
  | 0, _ => rfl
  | n + 1, hl => by rw [zz_sdn, zz_cst, zz_sdn_all n (fun k hk => hl k (by omega)), if_pos (hl n (by omega))]
theorem zz_sdn_cg {ls : Nat → Nat → Int} {st nd : Nat → Nat} {h t0 : Nat} {l l2 P : Nat → Nat} : ∀ n : Nat, (∀ k : Nat, k < n → (l k = 0 ↔ l2 k = 0)) → zz_sdn ls st nd h t0 l P n = zz_sdn ls st nd h t0 l2 P n
  | 0, _ => rfl
  | n + 1, hl => by
    rw [zz_sdn, zz_sdn, zz_sdn_cg n (fun k hk => hl k (by omega))]
    by_cases z : l n = 0
    · rw [if_pos z, if_pos ((hl n (by omega)).mp z)]
    · rw [if_neg z, if_neg (fun q => z ((hl n (by omega)).mpr q))]
theorem zz_sdn_one {ls : Nat → Nat → Int} {st nd : Nat → Nat} {h t0 i : Nat} {l l2 P : Nat → Nat} (h1 : ¬ l i = 0) (h2 : l2 i = 0) : ∀ n : Nat, (∀ k : Nat, k < n → ¬ k = i → l2 k = l k) → (n ≤ i → zz_sdn ls st nd h t0 l2 P n = zz_sdn ls st nd h t0 l P n) ∧ (i < n → zz_sdn ls st nd h t0 l2 P n = zz_sdn ls st nd h t0 l P n + ls (P i) (zz_DD (zz_pf P (i + 1)) st nd h t0 (P i))) := by
  intro n
  induction n with
  | zero => intro _; exact ⟨fun _ => rfl, fun z => absurd z (Nat.not_lt_zero _)⟩
  | succ n ih =>
    intro e
    have I := ih (fun k hk => e k (by omega))
    refine ⟨fun z => ?_, fun z => ?_⟩
    · rw [zz_sdn, zz_sdn, I.1 (by omega), e n (by omega) (by omega)]
    · by_cases q : n = i
      · subst q
        rw [zz_sdn, zz_sdn, I.1 (Nat.le_refl _), if_pos h2, if_neg h1]; omega
      · rw [zz_sdn, zz_sdn, I.2 (by omega), e n (by omega) q]; omega
