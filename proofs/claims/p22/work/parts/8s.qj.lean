/-- what a field costs that goes next after a set -/
noncomputable def zz_ck (N : Nat → Nat) (lf : Nat → Nat → Int) (st nd : Nat → Nat) (h t0 n B k : Nat) : Int := lf (N k) (zz_DD (zz_bs N (B ||| 2 ^ k) n) st nd h t0 (N k))
def zz_DP (N : Nat → Nat) (ck : Nat → Nat → Int) (LL BN : Nat → Int32) (n B : Nat) : Prop := ∃ kb : Nat, kb < n ∧ B.testBit kb = false ∧ BN B = nI kb ∧ (LL B).toInt = ck B kb + (LL (B ||| 2 ^ kb)).toInt ∧ ∀ k : Nat, k < n → B.testBit k = false → (LL B).toInt < ck B k + (LL (B ||| 2 ^ k)).toInt ∨ ((LL B).toInt = ck B k + (LL (B ||| 2 ^ k)).toInt ∧ N kb ≤ N k)
def zz_DPs (N : Nat → Nat) (ck : Nat → Nat → Int) (LL BN : Nat → Int32) (n w : Nat) : Prop := LL (2 ^ n - 1) = 0 ∧ (∀ B : Nat, w ≤ B → B < 2 ^ n - 1 → zz_DP N ck LL BN n B) ∧ ∀ B : Nat, w ≤ B → B ≤ 2 ^ n - 1 → 0 ≤ (LL B).toInt ∧ (LL B).toInt ≤ 10000 * ((2 ^ n - 1 - B : Nat) : Int)
theorem zz_DPs_0 {N : Nat → Nat} {ck : Nat → Nat → Int} {LL BN : Nat → Int32} {n : Nat} (hn : n ≤ 7) : zz_DPs N ck (upd LL (Int32.toNatClampNeg (nI (2 ^ n - 1))) 0) BN n (2 ^ n - 1) := by
  have := zz_alm7 hn
  rw [zz_cl (by omega)]
  refine ⟨zz_up_s, fun B h1 h2 => absurd h1 (by omega), fun B h1 h2 => ?_⟩
  rw [show B = 2 ^ n - 1 by omega, zz_up_s, Nat.sub_self]
  decide
def zz_ci (N : Nat → Nat) (ck : Nat → Nat → Int) (LL : Nat → Int32) (B k : Nat) (yb ll : Int32) : Prop := (yb = -1 ∧ ∀ j : Nat, j < k → B.testBit j = true) ∨ ∃ kb : Nat, kb < k ∧ yb = nI kb ∧ B.testBit kb = false ∧ ll.toInt = ck B kb + (LL (B ||| 2 ^ kb)).toInt ∧ ∀ j : Nat, j < k → B.testBit j = false → ll.toInt < ck B j + (LL (B ||| 2 ^ j)).toInt ∨ (ll.toInt = ck B j + (LL (B ||| 2 ^ j)).toInt ∧ N kb ≤ N j)
theorem zz_ci_0 {N : Nat → Nat} {ck : Nat → Nat → Int} {LL : Nat → Int32} {B : Nat} {ll : Int32} : zz_ci N ck LL B 0 (-1) ll := Or.inl ⟨rfl, fun j hj => absurd hj (Nat.not_lt_zero _)⟩
theorem zz_ci_no {N : Nat → Nat} {ck : Nat → Nat → Int} {LL : Nat → Int32} {B k : Nat} {yb ll : Int32} (h : zz_ci N ck LL B k yb ll) (hb : B.testBit k = true) : zz_ci N ck LL B (k + 1) yb ll := by
  rcases h with ⟨a, b⟩ | ⟨kb, a, b, c, d, e⟩
  · refine Or.inl ⟨a, fun j hj => ?_⟩
    by_cases z : j = k
    · rw [z]; exact hb
    · exact b j (by omega)
  · refine Or.inr ⟨kb, by omega, b, c, d, fun j hj z => ?_⟩
    by_cases y : j = k
    · rw [y, hb] at z; exact absurd z (by decide)
    · exact e j (by omega) z
theorem zz_ci_new {N : Nat → Nat} {ck : Nat → Nat → Int} {LL : Nat → Int32} {B k : Nat} {yb ll x : Int32} (h : zz_ci N ck LL B k yb ll) (hb : B.testBit k = false) (hx : x.toInt = ck B k + (LL (B ||| 2 ^ k)).toInt) (hk7 : k < 7) (hw : yb = -1 ∨ x.toInt < ll.toInt ∨ (x.toInt = ll.toInt ∧ ∀ z : Nat, yb = nI z → z < k → N k ≤ N z)) : zz_ci N ck LL B (k + 1) (nI k) x := by
  refine Or.inr ⟨k, by omega, rfl, hb, hx, fun j hj z => ?_⟩
  by_cases y : j = k
  · rw [y]; exact Or.inr ⟨hx, Nat.le_refl _⟩
  · rcases h with ⟨a, b⟩ | ⟨kb, a, b, c, d, e⟩
    · rw [b j (by omega)] at z; exact absurd z (by decide)
    · have q := e j (by omega) z
      rcases hw with w | w | ⟨w, w2⟩
      · rw [b] at w
        have := congrArg Int32.toInt w
        rw [show ((-1 : Int32)).toInt = -1 from by decide] at this
        rw [zz_toInt kb (by omega)] at this; omega
      · left; omega
      · have := w2 kb b a
        omega
theorem zz_ci_old {N : Nat → Nat} {ck : Nat → Nat → Int} {LL : Nat → Int32} {B k : Nat} {yb ll x : Int32} (h : zz_ci N ck LL B k yb ll) (hb : B.testBit k = false) (hx : x.toInt = ck B k + (LL (B ||| 2 ^ k)).toInt) (hy : ¬ yb = -1) (hw : ll.toInt < x.toInt ∨ (ll.toInt = x.toInt ∧ ∀ z : Nat, yb = nI z → z < k → N z ≤ N k)) : zz_ci N ck LL B (k + 1) yb ll := by
  rcases h with ⟨a, b⟩ | ⟨kb, a, b, c, d, e⟩
  · exact absurd a hy
  · refine Or.inr ⟨kb, by omega, b, c, d, fun j hj z => ?_⟩
    by_cases y : j = k
    · rw [y, ← hx]
      rcases hw with w | ⟨w, w2⟩
      · exact Or.inl w
      · exact Or.inr ⟨w, w2 kb b a⟩
    · exact e j (by omega) z
theorem zz_ci_end {N : Nat → Nat} {ck : Nat → Nat → Int} {LL BN : Nat → Int32} {n B : Nat} {yb ll : Int32} (hn : n ≤ 7) (hB : B < 2 ^ n - 1) (hc : ∀ k : Nat, k < n → 0 ≤ ck B k ∧ ck B k ≤ 10000) (H : zz_DPs N ck LL BN n (B + 1)) (h : zz_ci N ck LL B n yb ll) : zz_DPs N ck (upd LL (Int32.toNatClampNeg (nI B)) ll) (upd BN (Int32.toNatClampNeg (nI B)) (if 0 < yb then yb else 0)) n B := by
  have a7 := zz_alm7 hn
  rw [zz_cl (by omega)]
  rcases h with ⟨_, b⟩ | ⟨kb, a, b, c, d, e⟩
  · have := zz_full b; omega
  · have up : ∀ k : Nat, k < n → B.testBit k = false → B < B ||| 2 ^ k ∧ B ||| 2 ^ k ≤ 2 ^ n - 1 := by
      intro k hk hb
      have p : 2 ^ k < 2 ^ n := Nat.pow_lt_pow_right (by decide) hk
      have := Nat.or_lt_two_pow (x := B) (y := 2 ^ k) (n := n) (by omega) p
      exact ⟨zz_or_n hb, by omega⟩
    have lu : ∀ C : Nat, ¬ C = B → upd LL B ll C = LL C := fun C hC => zz_up_n hC
    have bu : ∀ C : Nat, ¬ C = B → upd BN B (if 0 < yb then yb else 0) C = BN C := fun C hC => zz_up_n hC
    refine ⟨by rw [lu _ (by omega)]; exact H.1, fun C h1 h2 => ?_, fun C h1 h2 => ?_⟩
    · by_cases z : C = B
      · subst z
        refine ⟨kb, a, c, ?_, ?_, fun k hk hb => ?_⟩
        · rw [zz_up_s, b]
          by_cases y : kb = 0
          · rw [y]; decide
          · rw [if_pos (by rw [Int32.lt_iff_toInt_lt, zz_toInt kb (by omega), show (0 : Int32).toInt = 0 from by decide]; omega)]
        · rw [zz_up_s, lu _ (by have := up kb a c; omega)]; exact d
        · rw [zz_up_s, lu _ (by have := up k hk hb; omega)]; exact e k hk hb
      · obtain ⟨k2, a2, c2, b2, d2, e2⟩ := H.2.1 C (by omega) h2
        refine ⟨k2, a2, c2, by rw [bu C z]; exact b2, ?_, fun k hk hb => ?_⟩
        · rw [lu C z, lu _ (by have := zz_or_n c2; omega)]; exact d2
        · rw [lu C z, lu _ (by have := zz_or_n hb; omega)]; exact e2 k hk hb
    · by_cases z : C = B
      · subst z
        rw [zz_up_s]
        have u := up kb a c
        have q := H.2.2 (C ||| 2 ^ kb) (by omega) u.2
        have w := hc kb a
        omega
      · rw [lu C z]; exact H.2.2 C (by omega) h2
/-- how many bits stand -/
def zz_cb (B : Nat) : Nat → Nat
  | 0 => 0
  | k + 1 => zz_cb B k + (if B.testBit k = true then 1 else 0)
theorem zz_cb_le {B : Nat} : ∀ n : Nat, zz_cb B n ≤ n
  | 0 => Nat.le_refl _
  | n + 1 => by rw [zz_cb]; have := zz_cb_le (B := B) n; split <;> omega
theorem zz_cb_all {B : Nat} : ∀ n : Nat, zz_cb B n = n → ∀ j : Nat, j < n → B.testBit j = true
  | 0, _, j, hj => absurd hj (Nat.not_lt_zero _)
  | n + 1, h, j, hj => by
    rw [zz_cb] at h
    have l := zz_cb_le (B := B) n
    by_cases b : B.testBit n = true
    · rw [if_pos b] at h
      by_cases e : j = n
      · rw [e]; exact b
      · exact zz_cb_all n (by omega) j (by omega)
    · rw [if_neg b] at h; omega
theorem zz_cb_or {B k : Nat} (hb : B.testBit k = false) : ∀ n : Nat, (n ≤ k → zz_cb (B ||| 2 ^ k) n = zz_cb B n) ∧ (k < n → zz_cb (B ||| 2 ^ k) n = zz_cb B n + 1) := by
  intro n
  induction n with
  | zero => exact ⟨fun _ => rfl, fun z => absurd z (Nat.not_lt_zero _)⟩
  | succ n ih =>
    refine ⟨fun z => ?_, fun z => ?_⟩
    · rw [zz_cb, zz_cb, ih.1 (by omega), zz_or_b, show decide (k = n) = false from decide_eq_false (by omega), Bool.or_false]
    · rw [zz_cb, zz_cb, zz_or_b]
      by_cases e : k = n
      · subst e
        rw [ih.1 (Nat.le_refl _), hb]; simp
      · rw [ih.2 (by omega), show decide (k = n) = false from decide_eq_false e, Bool.or_false]; omega
theorem zz_cb_0 : ∀ n : Nat, zz_cb 0 n = 0
  | 0 => rfl
  | n + 1 => by rw [zz_cb, zz_cb_0 n, Nat.zero_testBit]; rfl
theorem zz_cb_f {n : Nat} : ∀ k : Nat, k ≤ n → zz_cb (2 ^ n - 1) k = k
  | 0, _ => rfl
  | k + 1, h => by rw [zz_cb, zz_cb_f k (by omega), Nat.testBit_two_pow_sub_one, decide_eq_true (show k < n by omega)]; rfl
/-- the places gone through, as a set -/
def zz_mk (K : Nat → Nat) : Nat → Nat
  | 0 => 0
  | i + 1 => zz_mk K i ||| 2 ^ K i
theorem zz_mk_in {K : Nat → Nat} {j : Nat} : ∀ i : Nat, (zz_mk K i).testBit j = true ↔ ∃ a : Nat, a < i ∧ K a = j := by
  intro i
  induction i with
  | zero =>
    rw [zz_mk, Nat.zero_testBit]
    constructor
    · intro z; exact absurd z (by decide)
    · rintro ⟨a, ha, _⟩; exact absurd ha (Nat.not_lt_zero _)
  | succ i ih =>
    rw [zz_mk, zz_or_b, Bool.or_eq_true, ih, decide_eq_true_iff]
    constructor
    · rintro (⟨a, ha, e⟩ | e)
      · exact ⟨a, by omega, e⟩
      · exact ⟨i, by omega, e⟩
    · rintro ⟨a, ha, e⟩
      by_cases z : a = i
      · rw [z] at e; exact Or.inr e
      · exact Or.inl ⟨a, by omega, e⟩
theorem zz_mk_lt {K : Nat → Nat} {n : Nat} : ∀ i : Nat, (∀ a : Nat, a < i → K a < n) → zz_mk K i < 2 ^ n
  | 0, _ => Nat.two_pow_pos n
  | i + 1, h => Nat.or_lt_two_pow (zz_mk_lt i (fun a ha => h a (by omega))) (Nat.pow_lt_pow_right (by decide) (h i (by omega)))
theorem zz_mk_cb {K : Nat → Nat} {n : Nat} : ∀ i : Nat, (∀ a : Nat, a < i → K a < n ∧ (zz_mk K a).testBit (K a) = false) → zz_cb (zz_mk K i) n = i
  | 0, _ => zz_cb_0 n
  | i + 1, h => by
    have q := h i (by omega)
    rw [zz_mk, (zz_cb_or q.2 n).2 q.1, zz_mk_cb i (fun a ha => h a (by omega))]
theorem zz_mk_cg {K L : Nat → Nat} : ∀ i : Nat, (∀ a : Nat, a < i → K a = L a) → zz_mk K i = zz_mk L i
  | 0, _ => rfl
  | i + 1, h => by rw [zz_mk, zz_mk, zz_mk_cg i (fun a ha => h a (by omega)), h i (by omega)]
/-- the walk that the class chooses -/
def zz_ch (BN q0 o7 : Nat → Int32) (np i r3 : Nat) : Prop := ∃ K : Nat → Nat, r3 = zz_mk K i ∧ ∀ a : Nat, a < i → (K a < np ∧ (zz_mk K a).testBit (K a) = false) ∧ BN (zz_mk K a) = nI (K a) ∧ o7 a = q0 (K a)
theorem zz_ch_0 {BN q0 o7 : Nat → Int32} {np : Nat} : zz_ch BN q0 o7 np 0 0 := ⟨fun _ => 0, rfl, fun a ha => absurd ha (Nat.not_lt_zero _)⟩
theorem zz_ch_lt {BN q0 o7 : Nat → Int32} {np i r3 : Nat} (h : zz_ch BN q0 o7 np i r3) (hi : i < np) : r3 < 2 ^ np - 1 := by
  obtain ⟨K, e, k⟩ := h
  have l := zz_mk_lt (n := np) i (fun a ha => (k a ha).1.1)
  have c := zz_mk_cb (n := np) i (fun a ha => (k a ha).1)
  rw [← e] at l c
  by_cases z : r3 = 2 ^ np - 1
  · rw [z, zz_cb_f np (Nat.le_refl _)] at c; omega
  · omega
theorem zz_ch_s {N : Nat → Nat} {ck : Nat → Nat → Int} {LL BN q0 o7 : Nat → Int32} {np i r3 kb : Nat} (hn : np ≤ 7) (h : zz_ch BN q0 o7 np i r3) (hi : i < np) (D : zz_DPs N ck LL BN np 0) (ek : BN r3 = nI kb) (hk7 : kb < 7) : zz_ch BN q0 (upd o7 (Int32.toNatClampNeg (nI i)) (q0 kb)) np (i + 1) (r3 ||| 2 ^ kb) := by
  have lt := zz_ch_lt h hi
  obtain ⟨K, e, k⟩ := h
  obtain ⟨k2, a2, c2, b2, _⟩ := D.2.1 r3 (Nat.zero_le _) lt
  have ekk : kb = k2 := by
    have t1 := congrArg Int32.toInt (ek.symm.trans b2)
    rw [zz_toInt kb (by omega), zz_toInt k2 (by omega)] at t1
    omega
  subst ekk
  rw [zz_cl (by omega)]
  have eK : ∀ a : Nat, a < i → (fun a => if a = i then kb else K a) a = K a := fun a ha => if_neg (by omega)
  have em : ∀ a : Nat, a ≤ i → zz_mk (fun a => if a = i then kb else K a) a = zz_mk K a := fun a ha => zz_mk_cg a (fun x hx => eK x (by omega))
  refine ⟨fun a => if a = i then kb else K a, ?_, fun a ha => ?_⟩
  · rw [zz_mk, em i (Nat.le_refl _), ← e]
    show _ = r3 ||| 2 ^ (if i = i then kb else K i)
    rw [if_pos rfl]
  · rw [em a (by omega)]
    by_cases z : a = i
    · subst z
      simp only [if_true]
      rw [← e, zz_up_s]
      exact ⟨⟨a2, c2⟩, ek, rfl⟩
    · simp only [if_neg z]
      rw [zz_up_n z]
      exact k a (by omega)
