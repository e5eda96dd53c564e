theorem zz_sb {p s : Nat} (h : ∀ i : Nat, p.testBit i = true → s.testBit i = true) : p &&& s = p := by
  apply Nat.eq_of_testBit_eq
  intro i
  rw [Nat.testBit_and]
  have := h i
  cases hp : p.testBit i <;> simp_all
theorem zz_b8 {s i : Nat} (hs : s < 256) (h : s.testBit i = true) : i < 8 := by
  rcases Nat.lt_or_ge i 8 with z | z
  · exact z
  · have := Nat.testBit_lt_two_pow (x := s) (i := i) (Nat.lt_of_lt_of_le hs (Nat.pow_le_pow_right (n := 2) (i := 8) (by decide) z))
    rw [this] at h; cases h
theorem zz_p2b {h i : Nat} : (2 ^ h).testBit i = decide (h = i) := Nat.testBit_two_pow
theorem zz_p2s {s h : Nat} (hb : s.testBit h = true) : 2 ^ h &&& s = 2 ^ h := zz_sb (fun i hi => by
  rw [zz_p2b] at hi
  rw [← of_decide_eq_true hi]; exact hb)
theorem zz_le_of {p s : Nat} (h : p &&& s = p) : p ≤ s := by
  rw [← h]; exact Nat.and_le_right
theorem zz_sbt {p s t : Nat} (h : p &&& s = p) (h2 : s &&& t = s) : p &&& t = p := zz_sb (fun i hi => zz_in_of h2 (zz_in_of h hi))
theorem zz_subl {s p : Nat} (hs : s < 256) (h : p &&& s = p) (hp : 1 ≤ p) : s - p < s := by
  have := zz_le_of h
  omega
/-- a part that isn't all leaves one out -/
theorem zz_out {t s : Nat} (hs : s < 256) (h : t &&& s = t) (hn : ¬ t = s) : ∃ h : Nat, h < 8 ∧ s.testBit h = true ∧ t.testBit h = false := by
  refine Classical.byContradiction (fun z => hn ?_)
  apply Nat.eq_of_testBit_eq
  intro i
  cases hsi : s.testBit i with
  | false =>
    cases hti : t.testBit i with
    | false => rfl
    | true => rw [zz_in_of h hti] at hsi; cases hsi
  | true =>
    cases hti : t.testBit i with
    | false => exact absurd ⟨i, zz_b8 hs hsi, hsi, hti⟩ z
    | true => rfl
theorem zz_one_bit {s : Nat} (hs : s < 256) (h1 : 1 ≤ s) : ∃ h : Nat, h < 8 ∧ s.testBit h = true := ⟨zz_ls s, (zz_ls_in s hs h1).2, (zz_ls_in s hs h1).1⟩
theorem zz_sub1 {s t h : Nat} (hs : s < 256) (ht : t &&& s = t) (hb : s.testBit h = true) (hn : t.testBit h = false) : t &&& (s - 2 ^ h) = t := zz_sb (fun i hi => by
  rw [zz_sub_bit hs (zz_p2s hb), zz_in_of ht hi, zz_p2b]
  have : ¬ h = i := fun e => by rw [e, hi] at hn; cases hn
  simp [this])
/-- the most groups of a set, by leaving one after the other -/
def zz_RC (N : Nat → Int32) (c : Nat → Int) : Prop := c 0 = 0 ∧ ∀ s : Nat, 1 ≤ s → s < 256 → ∃ m : Int, (∀ h : Nat, h < 8 → s.testBit h = true → c (s - 2 ^ h) ≤ m) ∧ (∃ h : Nat, h < 8 ∧ s.testBit h = true ∧ c (s - 2 ^ h) = m) ∧ c s = m + (if zz_is N s 8 = 0 then 1 else 0)
theorem zz_RC_le {N : Nat → Int32} {c : Nat → Int} (H : zz_RC N c) : ∀ n s t : Nat, s < n → s < 256 → t &&& s = t → c t ≤ c s ∧ (zz_is N s 8 = 0 → ¬ t = s → c t + 1 ≤ c s) := by
  intro n
  induction n with
  | zero => intro s t h; exact absurd h (Nat.not_lt_zero _)
  | succ n ih =>
    intro s t hn hs ht
    by_cases e : t = s
    · rw [e]; exact ⟨Int.le_refl _, fun _ z => absurd rfl z⟩
    · obtain ⟨h, hh, h1, h2⟩ := zz_out hs ht e
      have s1 : 1 ≤ s := by
        rcases Nat.eq_zero_or_pos s with z | z
        · rw [z, Nat.zero_testBit] at h1; cases h1
        · exact z
      have hl := zz_subl hs (zz_p2s h1) (Nat.one_le_two_pow)
      obtain ⟨m, m1, _, m3⟩ := H.2 s s1 hs
      have a := (ih (s - 2 ^ h) t (by omega) (by omega) (zz_sub1 hs ht h1 h2)).1
      have b := m1 h hh h1
      by_cases z : zz_is N s 8 = 0
      · rw [if_pos z] at m3
        exact ⟨by omega, fun _ _ => by omega⟩
      · rw [if_neg z] at m3
        exact ⟨by omega, fun q => absurd q z⟩
theorem zz_RC_z {N : Nat → Int32} {c : Nat → Int} (H : zz_RC N c) : ∀ n t : Nat, t < n → t < 256 → ∃ q : Nat, q &&& t = q ∧ zz_is N q 8 = 0 ∧ c q = c t := by
  intro n
  induction n with
  | zero => intro t h; exact absurd h (Nat.not_lt_zero _)
  | succ n ih =>
    intro t hn ht
    by_cases z : zz_is N t 8 = 0
    · exact ⟨t, Nat.and_self t, z, rfl⟩
    · rcases Nat.eq_zero_or_pos t with z0 | z0
      · rw [z0] at z
        refine absurd ?_ z
        have : ∀ k : Nat, zz_is N 0 k = 0 := by
          intro k
          induction k with
          | zero => rfl
          | succ k ik => rw [zz_is, ik, Nat.zero_testBit]; rfl
        exact this 8
      · obtain ⟨m, _, ⟨h, hh, h1, h2⟩, m3⟩ := H.2 t z0 ht
        rw [if_neg z] at m3
        have hl := zz_subl ht (zz_p2s h1) (Nat.one_le_two_pow)
        obtain ⟨q, q1, q2, q3⟩ := ih (t - 2 ^ h) (by omega) (by omega)
        refine ⟨q, zz_sbt q1 (zz_sub_and ht (zz_p2s h1) (Nat.and_self t)), q2, ?_⟩
        omega
theorem zz_is0 {N : Nat → Int32} : ∀ k : Nat, zz_is N 0 k = 0
  | 0 => rfl
  | k + 1 => by rw [zz_is, zz_is0 k, Nat.zero_testBit]; rfl
/-- the reference's groups: the most parts, the one with the least house first -/
def zz_v (N : Nat → Int32) (g : Nat → Int) (x p : Nat) : Prop := 1 ≤ p ∧ p &&& x = p ∧ p.testBit (zz_ls x) = true ∧ zz_is N p 8 = 0 ∧ 0 ≤ g (x - p)
def zz_RG (N : Nat → Int32) (g : Nat → Int) (al : Nat) : Prop := g 0 = 0 ∧ ∀ x : Nat, 1 ≤ x → x &&& al = x → (∃ p : Nat, zz_v N g x p ∧ g x = g (x - p) + 1 ∧ ∀ q : Nat, zz_v N g x q → g (x - q) + 1 ≤ g x) ∨ (g x = -1 ∧ ∀ q : Nat, ¬ zz_v N g x q)
theorem zz_ls_sub {t s : Nat} (hs : s < 256) (ht : t &&& s = t) (h1 : 1 ≤ s) (hb : t.testBit (zz_ls s) = true) : zz_ls t = zz_ls s := by
  refine zz_ls_eq (zz_ls_in s hs h1).2 (fun i hi => ?_) hb
  cases hti : t.testBit i with
  | false => rfl
  | true =>
    have := zz_in_of ht hti
    have e : (List.range 8).find? (fun i => s.testBit i) = some (zz_ls s) := by
      have q := (zz_ls_in s hs h1)
      cases w : (List.range 8).find? (fun i => s.testBit i) with
      | none =>
        have := List.find?_eq_none.mp w (zz_ls s) (List.mem_range.mpr q.2)
        exact absurd q.1 (by simpa using this)
      | some k => simp [zz_ls, w]
    rw [List.find?_range_eq_some] at e
    have := e.2.2 i hi
    simp_all
theorem zz_MC {N : Nat → Int32} {c g : Nat → Int} {al : Nat} (hal : al < 256) (H : zz_RC N c) (G : zz_RG N g al) : ∀ n x : Nat, x < n → x &&& al = x → (zz_is N x 8 = 0 → g x = c x) ∧ (¬ zz_is N x 8 = 0 → g x = -1) := by
  intro n
  induction n with
  | zero => intro x h; exact absurd h (Nat.not_lt_zero _)
  | succ n ih =>
    intro x hn hx
    have hx8 : x < 256 := by have := zz_le_of hx; omega
    rcases Nat.eq_zero_or_pos x with z0 | x1
    · rw [z0]
      exact ⟨fun _ => by rw [G.1, H.1], fun z => absurd (zz_is0 8) z⟩
    · -- a valid part leaves a set of which g is known
      have vk : ∀ p : Nat, zz_v N g x p → x - p < n ∧ (x - p) &&& al = x - p ∧ zz_is N (x - p) 8 = 0 ∧ zz_is N x 8 = 0 ∧ g (x - p) = c (x - p) := by
        intro p hv
        obtain ⟨v1, v2, v3, v4, v5⟩ := hv
        have hl := zz_subl hx8 v2 v1
        have ha := zz_sub_and hx8 v2 hx
        have I := ih (x - p) (by omega) ha
        have hz : zz_is N (x - p) 8 = 0 := Classical.byContradiction (fun z => by have := I.2 z; omega)
        have hs := zz_is_sub (F := N) hx8 v2 8
        exact ⟨by omega, ha, hz, by omega, I.1 hz⟩
      rcases G.2 x x1 hx with ⟨p, pv, pe, pm⟩ | ⟨ge, gn⟩
      · obtain ⟨p1, p2, p3, p4, p5⟩ := vk p pv
        refine ⟨fun _ => ?_, fun z => absurd p4 z⟩
        -- g x ≤ c x
        have hle : g x ≤ c x := by
          have hsub := zz_sub_and hx8 pv.2.1 (Nat.and_self x)
          have := (zz_RC_le H (x + 1) x (x - p) (by omega) hx8 hsub).2 p4 (by have := pv.1; have := zz_le_of pv.2.1; omega)
          omega
        -- c x ≤ g x
        obtain ⟨m, _, ⟨h, hh, h1, h2⟩, m3⟩ := H.2 x x1 hx8
        rw [if_pos p4] at m3
        have hl := zz_subl hx8 (zz_p2s h1) (Nat.one_le_two_pow)
        obtain ⟨t, t1, t2, t3⟩ := zz_RC_z H (x - 2 ^ h + 1) (x - 2 ^ h) (by omega) (by omega)
        have tx : t &&& x = t := zz_sbt t1 (zz_sub_and hx8 (zz_p2s h1) (Nat.and_self x))
        have tl : t < x := by have := zz_le_of t1; omega
        have ta : t &&& al = t := zz_sbt tx hx
        have gt := (ih t (by omega) ta).1 t2
        have sx : (x - t) &&& x = x - t := zz_sub_and hx8 tx (Nat.and_self x)
        have sz : zz_is N (x - t) 8 = 0 := by have := zz_is_sub (F := N) hx8 tx 8; omega
        have hge : c x ≤ g x := by
          have ct0 : 0 ≤ g t := by
            rw [gt]
            have := (zz_RC_le H (t + 1) t 0 (by omega) (by omega) (Nat.zero_and t)).1
            rw [H.1] at this; exact this
          by_cases hb : (x - t).testBit (zz_ls x) = true
          · have e : x - (x - t) = t := by omega
            have := pm (x - t) ⟨by omega, sx, hb, sz, by rw [e]; exact ct0⟩
            rw [e] at this
            omega
          · have hbt : t.testBit (zz_ls x) = true := by
              have q := (zz_ls_in x hx8 x1).1
              rw [zz_sub_bit hx8 tx, q] at hb
              cases w : t.testBit (zz_ls x) <;> simp_all
            have t1' : 1 ≤ t := by
              rcases Nat.eq_zero_or_pos t with z | z
              · rw [z, Nat.zero_testBit] at hbt; cases hbt
              · exact z
            rcases G.2 t t1' ta with ⟨r, rv, re, _⟩ | ⟨re, _⟩
            · obtain ⟨r1, r2, r3, r4, r5⟩ := rv
              have t8 : t < 256 := by omega
              have rx : r &&& x = r := zz_sbt r2 tx
              have rl : x - r < x := zz_subl hx8 rx r1
              have rxa : (x - r) &&& al = x - r := zz_sub_and hx8 rx hx
              have rxz : zz_is N (x - r) 8 = 0 := by have := zz_is_sub (F := N) hx8 rx 8; omega
              have gxr := (ih (x - r) (by omega) rxa).1 rxz
              have trz : zz_is N (t - r) 8 = 0 := by have := zz_is_sub (F := N) t8 r2 8; omega
              have tra : (t - r) &&& al = t - r := zz_sub_and t8 r2 ta
              have gtr := (ih (t - r) (by omega) tra).1 trz
              have sub : (t - r) &&& (x - r) = t - r := zz_sb (fun i hi => by
                have a := zz_sub_in t8 r2 hi
                rw [zz_sub_bit hx8 rx, zz_in_of tx a.1, a.2]; rfl)
              have cc := (zz_RC_le H (x - r + 1) (x - r) (t - r) (by omega) (by omega) sub).2 rxz (by have := zz_le_of r2; omega)
              have := pm r ⟨r1, rx, by rw [← zz_ls_sub hx8 tx x1 hbt]; exact r3, r4, by rw [gxr]; omega⟩
              omega
            · rw [re] at ct0; exact absurd ct0 (by decide)
        omega
      · refine ⟨fun z => ?_, fun _ => ge⟩
        refine absurd ?_ (gn x)
        refine ⟨x1, Nat.and_self x, (zz_ls_in x hx8 x1).1, z, ?_⟩
        rw [Nat.sub_self, G.1]
        exact Int.le_refl _
