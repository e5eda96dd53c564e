theorem zz_b2p {h i : Nat} : (2 ^ h).testBit i = decide (h = i) := Nat.testBit_two_pow
theorem zz_b0 {s j : Nat} (h : s &&& 2 ^ j = 0) : s.testBit j = false := by
  have e := congrArg (fun x => Nat.testBit x j) h
  simp only [Nat.testBit_and, zz_b2p, Nat.zero_testBit, decide_true, Bool.and_true] at e
  exact e
theorem zz_b1 {s j : Nat} (h : ¬ s &&& 2 ^ j = 0) : s.testBit j = true := by
  cases w : s.testBit j with
  | true => rfl
  | false =>
    refine absurd ?_ h
    apply Nat.eq_of_testBit_eq
    intro i
    rw [Nat.testBit_and, zz_b2p, Nat.zero_testBit]
    by_cases e : j = i
    · rw [← e, w]; rfl
    · simp [e]
theorem zz_bp7 {j : Nat} (h : j < 7) : 2 ^ j ≤ 64 := by
  have := Nat.pow_le_pow_right (n := 2) (by decide) (show j ≤ 6 by omega)
  exact this
theorem zz_bv7 {g : Nat} (hg : g < 256) (i : Nat) : (nI g).toBitVec.getLsbD i = g.testBit i := by
  have e : (nI g).toBitVec.toNat = g := pk_tn (n := g) (by omega)
  have : (nI g).toBitVec.getLsbD i = ((nI g).toBitVec.toNat).testBit i := rfl
  rw [this, e]
theorem zz_orl {r j : Nat} (hr : r < 128) (hj : j < 7) : r ||| 2 ^ j < 128 := Nat.or_lt_two_pow (n := 7) hr (by have := zz_bp7 hj; omega)
theorem zz_orN7 {r j : Nat} (hr : r < 128) (hj : j < 7) : (nI r) ||| (nI (2 ^ j)) = nI (r ||| 2 ^ j) := by
  have p := zz_bp7 hj
  have hl := zz_orl hr hj
  apply Int32.toBitVec_inj.mp
  apply BitVec.eq_of_getLsbD_eq
  intro i hi
  rw [Int32.toBitVec_or, BitVec.getLsbD_or, zz_bv7 (by omega) i, zz_bv7 (by omega) i, zz_bv7 (by omega) i, Nat.testBit_or]
theorem zz_or_b {r j i : Nat} : (r ||| 2 ^ j).testBit i = (r.testBit i || decide (j = i)) := by rw [Nat.testBit_or, zz_b2p]
theorem zz_or_s {r j : Nat} (h : r.testBit j = true) : r ||| 2 ^ j = r := by
  apply Nat.eq_of_testBit_eq
  intro i
  rw [zz_or_b]
  by_cases e : j = i
  · rw [← e, h]; rfl
  · simp [e]
theorem zz_or_n {r j : Nat} (h : r.testBit j = false) : r < r ||| 2 ^ j := by
  have a : r ≤ r ||| 2 ^ j := Nat.left_le_or
  rcases Nat.lt_or_eq_of_le a with z | z
  · exact z
  · have e := zz_or_b (r := r) (j := j) (i := j)
    rw [← z, h] at e
    simp at e
theorem zz_allX {k : Nat} (h : k ≤ 7) : ((1 : Int32) <<< (nI k &&& 31)) - 1 = nI (2 ^ k - 1) := by
  rcases (show k = 0 ∨ k = 1 ∨ k = 2 ∨ k = 3 ∨ k = 4 ∨ k = 5 ∨ k = 6 ∨ k = 7 by omega) with rfl | rfl | rfl | rfl | rfl | rfl | rfl | rfl <;> decide
theorem zz_alm7 {k : Nat} (h : k ≤ 7) : 2 ^ k - 1 < 128 := by
  have := Nat.pow_le_pow_right (n := 2) (by decide) h
  have e : 2 ^ 7 = 128 := by decide
  omega
theorem zz_full {n B : Nat} (h : ∀ j : Nat, j < n → B.testBit j = true) : 2 ^ n - 1 ≤ B := by
  have e : (2 ^ n - 1) ||| B = B := by
    apply Nat.eq_of_testBit_eq
    intro i
    rw [Nat.testBit_or, Nat.testBit_two_pow_sub_one]
    by_cases c : i < n
    · rw [h i c]; simp
    · simp [c]
  rw [← e]
  exact Nat.left_le_or
/-- the set of the fields whose bits stand -/
def zz_bs (N : Nat → Nat) (s : Nat) : Nat → Nat → Bool
  | 0 => fun _ => false
  | k + 1 => if s.testBit k = true then zz_ad (zz_bs N s k) (N k) else zz_bs N s k
theorem zz_bs_in {N : Nat → Nat} {s x : Nat} : ∀ k : Nat, zz_bs N s k x = true ↔ ∃ j : Nat, j < k ∧ s.testBit j = true ∧ N j = x := by
  intro k
  induction k with
  | zero =>
    constructor
    · intro z; exact absurd (show false = true from z) (by decide)
    · rintro ⟨j, hj, _⟩; exact absurd hj (Nat.not_lt_zero _)
  | succ k ih =>
    rw [zz_bs]
    by_cases b : s.testBit k = true
    · rw [if_pos b]
      by_cases e : x = N k
      · rw [e, zz_ad_s]
        exact ⟨fun _ => ⟨k, by omega, b, rfl⟩, fun _ => rfl⟩
      · rw [zz_ad_n e, ih]
        constructor
        · rintro ⟨j, hj, z⟩; exact ⟨j, by omega, z⟩
        · rintro ⟨j, hj, y, z⟩
          by_cases q : j = k
          · rw [q] at z; exact absurd z.symm e
          · exact ⟨j, by omega, y, z⟩
    · rw [if_neg b, ih]
      constructor
      · rintro ⟨j, hj, z⟩; exact ⟨j, by omega, z⟩
      · rintro ⟨j, hj, y, z⟩
        by_cases q : j = k
        · rw [q] at y; exact absurd y b
        · exact ⟨j, by omega, y, z⟩
theorem zz_bs_no {N : Nat → Nat} {s k n : Nat} (hi : ∀ a b : Nat, a < n → b < n → N a = N b → a = b) (h : k < n) : zz_bs N s k (N k) = false := by
  cases w : zz_bs N s k (N k) with
  | false => rfl
  | true =>
    obtain ⟨j, hj, _, e⟩ := (zz_bs_in k).mp w
    have := hi j k (by omega) h e
    omega
theorem zz_sq_0 {f : Nat → Nat} (h : ∀ x : Nat, f x = 0) : ∀ n : Nat, zz_sq f n = 0
  | 0 => rfl
  | n + 1 => by rw [zz_sq, zz_sq_0 h n, h n]
theorem zz_A_0 {S : Nat → Bool} {st nd : Nat → Nat} {d : Nat} (h : ∀ x : Nat, S x = true → ¬ st x = d) : zz_A S st nd d = 0 := zz_sq_0 (fun x => if_neg (fun z => h x z.1 z.2)) 12
theorem zz_W_ad {S : Nat → Bool} {st nd : Nat → Nat} {h t0 q : Nat} (hq : q < 12) (hS : S q = false) : ∀ t : Nat, t0 + t < st q → zz_W (zz_ad S q) st nd h t0 t = zz_W S st nd h t0 t := by
  intro t
  induction t with
  | zero => intro z; rw [zz_W, zz_W, zz_A_ad hq hS, if_neg (by omega), Nat.add_zero]
  | succ t ih => intro z; rw [zz_W, zz_W, zz_A_ad hq hS, if_neg (by omega), Nat.add_zero, ih (by omega)]
theorem zz_W_bs {N : Nat → Nat} {st nd : Nat → Nat} {s h t0 k n : Nat} (hi : ∀ a b : Nat, a < n → b < n → N a = N b → a = b) (h12 : ∀ a : Nat, a < n → N a < 12) {t : Nat} : ∀ m : Nat, k ≤ m → m ≤ n → (∀ j : Nat, k ≤ j → j < m → s.testBit j = true → t0 + t < st (N j)) → zz_W (zz_bs N s m) st nd h t0 t = zz_W (zz_bs N s k) st nd h t0 t := by
  intro m
  induction m with
  | zero => intro z _ _; rw [show k = 0 by omega]
  | succ m ih =>
    intro z1 z2 z3
    by_cases e : k = m + 1
    · rw [e]
    · have I := ih (by omega) (by omega) (fun j a b c => z3 j a (by omega) c)
      rw [zz_bs]
      by_cases b : s.testBit m = true
      · rw [if_pos b, zz_W_ad (h12 m (by omega)) (zz_bs_no hi (by omega)) t (z3 m (by omega) (by omega) b)]; exact I
      · rw [if_neg b]; exact I
theorem zz_W_tl {S : Nat → Bool} {st nd : Nat → Nat} {h t0 dy : Nat} (ht : t0 ≤ dy) (hS : ∀ x : Nat, S x = true → st x ≤ dy) : ∀ i : Nat, zz_W S st nd h t0 (dy - t0 + i) = zz_Wb S st nd h t0 (dy - t0) - h * (i + 1) := by
  intro i
  induction i with
  | zero => rw [Nat.add_zero, zz_W_b, Nat.zero_add, Nat.mul_one]
  | succ i ih =>
    rw [← Nat.add_assoc, zz_W, ih, zz_A_0 (fun x hx z => by have := hS x hx; omega), Nat.mul_add h (i + 1) 1, Nat.mul_one]
    omega
theorem zz_Wb_tl {S : Nat → Bool} {st nd : Nat → Nat} {h t0 dy : Nat} (ht : t0 ≤ dy) (hS : ∀ x : Nat, S x = true → st x ≤ dy) : ∀ i : Nat, zz_Wb S st nd h t0 (dy - t0 + i) = zz_Wb S st nd h t0 (dy - t0) - h * i := by
  intro i
  cases i with
  | zero => rw [Nat.add_zero, Nat.mul_zero, Nat.sub_zero]
  | succ i =>
    rw [← Nat.add_assoc, zz_Wb, zz_W_tl ht hS i, zz_A_0 (fun x hx z => by have := hS x hx; omega), Nat.add_zero]
theorem zz_Wb_ad0 {S : Nat → Bool} {st nd : Nat → Nat} {h t0 q : Nat} (hq : q < 12) (hS : S q = false) : ∀ t : Nat, st q = t0 + t → zz_Wb (zz_ad S q) st nd h t0 t = zz_Wb S st nd h t0 t + nd q := by
  intro t
  cases t with
  | zero => intro z; rw [zz_Wb, zz_Wb, zz_A_ad hq hS, if_pos (by omega)]
  | succ t => intro z; rw [zz_Wb, zz_Wb, zz_W_ad hq hS t (by omega), zz_A_ad hq hS, if_pos (by omega)]; omega
/-- where the class's run through a set stands -/
def zz_dd (N st nd : Nat → Nat) (h t0 s nl n k dy ud : Nat) : Prop := t0 ≤ dy ∧ (∀ j : Nat, j < k → s.testBit j = true → st (N j) ≤ dy) ∧ zz_Wb (zz_bs N s k) st nd h t0 (dy - t0) = ud ∧ (∀ j : Nat, k ≤ j → j < n → dy ≤ st (N j)) ∧ (nl < k → 1 ≤ ud ∧ st (N nl) ≤ dy ∧ ∀ e : Nat, st (N nl) ≤ e → e < dy → ¬ zz_W (zz_bs N s k) st nd h t0 (e - t0) = 0)
theorem zz_bs_le {N st : Nat → Nat} {s k dy : Nat} (h : ∀ j : Nat, j < k → s.testBit j = true → st (N j) ≤ dy) : ∀ x : Nat, zz_bs N s k x = true → st x ≤ dy := by
  intro x hx
  obtain ⟨j, hj, b, e⟩ := (zz_bs_in k).mp hx
  rw [← e]; exact h j hj b
theorem zz_dd_0 {N st nd : Nat → Nat} {h t0 s nl n : Nat} (hs : ∀ j : Nat, j < n → t0 ≤ st (N j)) : zz_dd N st nd h t0 s nl n 0 t0 0 := by
  refine ⟨Nat.le_refl _, fun j hj => absurd hj (Nat.not_lt_zero _), ?_, fun j _ hj => hs j hj, fun z => absurd z (Nat.not_lt_zero _)⟩
  rw [Nat.sub_self]
  exact zz_A_0 (fun x hx => absurd (show false = true from hx) (by decide))
theorem zz_dd_no {N st nd : Nat → Nat} {h t0 s nl n k dy ud : Nat} (H : zz_dd N st nd h t0 s nl n k dy ud) (hb : s.testBit k = false) (hl : s.testBit nl = true) : zz_dd N st nd h t0 s nl n (k + 1) dy ud := by
  obtain ⟨a, b, c, d, e⟩ := H
  have eb : zz_bs N s (k + 1) = zz_bs N s k := by rw [zz_bs, if_neg (by rw [hb]; decide)]
  refine ⟨a, fun j hj z => ?_, by rw [eb]; exact c, fun j h1 h2 => d j (by omega) h2, fun z => ?_⟩
  · by_cases q : j = k
    · rw [q, hb] at z; exact absurd z (by decide)
    · exact b j (by omega) z
  · rw [eb]
    refine e ?_
    by_cases q : nl = k
    · rw [q, hb] at hl; exact absurd hl (by decide)
    · omega
theorem zz_dd_go {N st nd : Nat → Nat} {h t0 s nl n k dy ud : Nat} (hi : ∀ a b : Nat, a < n → b < n → N a = N b → a = b) (h12 : ∀ a : Nat, a < n → N a < 12) (hn1 : ∀ a : Nat, a < n → 1 ≤ nd (N a)) (hs : ∀ a : Nat, a < n → t0 ≤ st (N a)) (hso : ∀ a b : Nat, a ≤ b → b < n → st (N a) ≤ st (N b)) (H : zz_dd N st nd h t0 s nl n k dy ud) (hk : k < n) (hb : s.testBit k = true) (hr : nl < k → h * (st (N k) - dy) < ud) : zz_dd N st nd h t0 s nl n (k + 1) (st (N k)) ((ud - h * (st (N k) - dy)) + nd (N k)) := by
  obtain ⟨a, b, c, d, e⟩ := H
  have eb : zz_bs N s (k + 1) = zz_ad (zz_bs N s k) (N k) := by rw [zz_bs, if_pos hb]
  have dk := d k (Nat.le_refl _) hk
  have le := zz_bs_le b
  have no := zz_bs_no (s := s) hi hk
  have n1 := hn1 k hk
  refine ⟨by omega, fun j hj z => ?_, ?_, fun j h1 h2 => hso k j (by omega) h2, fun z => ⟨by omega, ?_, fun x h1 h2 => ?_⟩⟩
  · by_cases q : j = k
    · rw [q]; exact Nat.le_refl _
    · have := b j (by omega) z; omega
  · rw [eb, zz_Wb_ad0 (h12 k hk) no (st (N k) - t0) (by omega), show st (N k) - t0 = dy - t0 + (st (N k) - dy) by omega, zz_Wb_tl a le, c]
  · exact hso nl k (by omega) hk
  · by_cases q : nl = k
    · rw [q] at h1; omega
    · have E := e (by omega)
      have g : t0 ≤ x := by have := hs nl (by omega); omega
      rw [eb, zz_W_ad (h12 k hk) no (x - t0) (by omega)]
      by_cases y : x < dy
      · exact E.2.2 x h1 y
      · rw [show x - t0 = dy - t0 + (x - dy) by omega, zz_W_tl a le, c]
        have r := hr (by omega)
        have m : h * (x - dy + 1) ≤ h * (st (N k) - dy) := Nat.mul_le_mul_left h (by omega)
        omega
