/-- the reference's signed byte beside the class's -/
def zz_by (x y : Int32) : Prop := (0 ≤ x.toInt ∧ y = x) ∨ (x.toInt < 0 ∧ 128 ≤ y.toInt)
theorem zz_by1 {x y : Int32} (h : zz_by x y) : zz_so y = 1 ↔ (97 ≤ x.toInt ∧ x.toInt ≤ 122) ∨ (65 ≤ x.toInt ∧ x.toInt ≤ 90) := by
  rw [zz_so1]
  rcases h with ⟨a, b⟩ | ⟨a, b⟩
  · rw [b]
  · omega
theorem zz_by2 {x y : Int32} (h : zz_by x y) : zz_so y = 2 ↔ 48 ≤ x.toInt ∧ x.toInt ≤ 57 := by
  rw [zz_so2]
  rcases h with ⟨a, b⟩ | ⟨a, b⟩
  · rw [b]
  · omega
theorem zz_by0 {x y : Int32} (h : zz_by x y) : zz_so y = 0 ↔ x.toInt = 32 := by
  rw [zz_so0]
  rcases h with ⟨a, b⟩ | ⟨a, b⟩
  · rw [b]
  · omega
theorem zz_by3 {x y : Int32} (h : zz_by x y) : zz_so y = 3 ↔ x.toInt = 59 := by
  rw [zz_so3]
  rcases h with ⟨a, b⟩ | ⟨a, b⟩
  · rw [b]
  · omega
theorem zz_by_eq {x y : Int32} (h : zz_by x y) (hs : zz_so y = 1 ∨ zz_so y = 2) : y = x := by
  rcases h with ⟨a, b⟩ | ⟨a, b⟩
  · exact b
  · rcases hs with hs | hs
    · have := zz_so1.mp hs; omega
    · have := zz_so2.mp hs; omega
theorem zz_cd_hi {cs : Nat → Int32} {k : Nat} : ∀ n : Nat, zz_run cs 1 k n → zz_cd cs k n ≤ (64 : Int) ^ n - 1
  | 0, _ => by rw [zz_cd]; decide
  | n + 1, h => by
    have a := zz_cd_hi n (fun i hi => h i (by omega))
    have b := zz_letter_d (h n (by omega))
    rw [zz_cd, Int.pow_succ]
    omega
/-- one letter more, as the reference reckons in longs -/
theorem zz_cd_step {cs : Nat → Int32} {k n : Nat} {y : Int64} {x : Int32} (hr : zz_run cs 1 k n) (hn : n < 8) (hy : y.toInt = zz_cd cs k n) (hs : zz_so (cs (k + n)) = 1) (hx : cs (k + n) = x) : (((Int32.toInt64 64) * y + Int32.toInt64 x) - Int32.toInt64 64).toInt = zz_cd cs k (n + 1) := by
  have a := (zz_cd_lo n hr).1
  have b := zz_cd_hi n hr
  have p : (64 : Int) ^ n ≤ 64 ^ 7 := by
    rcases (show n = 0 ∨ n = 1 ∨ n = 2 ∨ n = 3 ∨ n = 4 ∨ n = 5 ∨ n = 6 ∨ n = 7 by omega) with rfl | rfl | rfl | rfl | rfl | rfl | rfl | rfl <;> decide
  have p7 : (64 : Int) ^ 7 = 4398046511104 := by decide
  have d := zz_letter_d hs
  rw [hx] at d
  have e0 : (Int32.toInt64 64).toInt = 64 := by decide
  have e1 : ((Int32.toInt64 64) * y).toInt = 64 * y.toInt := by
    rw [Int64.toInt_mul, e0]
    rw [Int.bmod_eq_of_le] <;> omega
  have e2 : ((Int32.toInt64 64) * y + Int32.toInt64 x).toInt = 64 * y.toInt + x.toInt := by
    rw [Int64.toInt_add, e1, Int32.toInt_toInt64]
    rw [Int.bmod_eq_of_le] <;> omega
  rw [Int64.toInt_sub, e2, e0, zz_cd, hx, hy]
  rw [Int.bmod_eq_of_le] <;> omega
/-- the token at k: where it ends, its sort and what it tells -/
def zz_td (cs : Nat → Int32) (n k m2 : Nat) (s2 t2 : Int32) : Prop :=
  (k = n ∧ m2 = n ∧ s2 = 0) ∨ (k < n ∧ zz_so (cs k) = 1 ∧ (∃ m : Nat, 1 ≤ m ∧ m2 = k + m ∧ m2 ≤ n ∧ zz_run cs 1 k m ∧ ¬ zz_so (cs (k + m)) = 1) ∧ ((zz_wd cs k = -1 ∧ s2 = 4) ∨ ∃ w : Nat, w < 7 ∧ zz_wd cs k = nI w ∧ t2 = nI w ∧ s2 = 1)) ∨ (k < n ∧ zz_so (cs k) = 2 ∧ s2 = 2 ∧ ∃ m : Nat, 1 ≤ m ∧ m2 = k + m ∧ m2 ≤ n ∧ zz_run cs 2 k m ∧ ¬ zz_so (cs (k + m)) = 2 ∧ zz_tn t2 (zz_nv cs k m)) ∨ (k < n ∧ m2 = k + 1 ∧ ((zz_so (cs k) = 3 ∧ s2 = 3) ∨ (zz_so (cs k) = 4 ∧ s2 = 4)))
def zz_np (cs : Nat → Int32) (n p m2 : Nat) (k2 s2 t2 : Int32) : Prop := ∃ k : Nat, p ≤ k ∧ k ≤ n ∧ k2 = nI k ∧ (∀ i : Nat, p ≤ i → i < k → zz_so (cs i) = 0) ∧ zz_td cs n k m2 s2 t2
/-- where a token's end stands another may begin -/
theorem zz_td_bd {cs : Nat → Int32} {n k m2 : Nat} {s2 t2 : Int32} (h : zz_td cs n k m2 s2 t2) (hk : k < n) : zz_bd cs m2 ∧ k < m2 ∧ m2 ≤ n := by
  rcases h with h | ⟨_, h1, ⟨m, a, b, c, d, e⟩, _⟩ | ⟨_, h1, _, m, a, b, c, d, e, _⟩ | ⟨_, b, c⟩
  · omega
  · subst b; exact ⟨zz_bd_run a d e, by omega, c⟩
  · subst b; exact ⟨zz_bd_run a d e, by omega, c⟩
  · subst b
    refine ⟨zz_bd_one (fun z => ?_), by omega, by omega⟩
    rcases c with ⟨c, _⟩ | ⟨c, _⟩ <;> rcases z with z | z <;> (rw [c] at z; exact absurd z (by decide))
theorem zz_td_ne0 {cs : Nat → Int32} {n k m2 : Nat} {s2 t2 : Int32} (h : zz_td cs n k m2 s2 t2) (hk : k < n) : ¬ zz_so (cs k) = 0 := by
  rcases h with h | ⟨_, h1, _⟩ | ⟨_, h1, _⟩ | ⟨_, b, c⟩
  · omega
  · rw [h1]; decide
  · rw [h1]; decide
  · rcases c with ⟨c, _⟩ | ⟨c, _⟩ <;> (rw [c]; decide)
/-- the rest of a token begins none -/
theorem zz_td_skip {cs : Nat → Int32} {n k m2 : Nat} {s2 t2 : Int32} {q : zz_Q} (h : zz_td cs n k m2 s2 t2) (hk : k < n) : zz_R cs n (k + 1) q = zz_R cs n m2 q := by
  rcases h with h | ⟨_, h1, ⟨m, a, b, c, d, e⟩, _⟩ | ⟨_, h1, _, m, a, b, c, d, e, _⟩ | ⟨_, b, c⟩
  · omega
  · subst b; exact zz_R_run (Or.inl rfl) m a c d
  · subst b; exact zz_R_run (Or.inr rfl) m a c d
  · rw [b]
/-- from a place where a token may begin to the next token -/
theorem zz_np_R {cs : Nat → Int32} {n p m2 : Nat} {k2 s2 t2 : Int32} {q : zz_Q} {F : Nat × Int32 × zz_Q} (h : zz_np cs n p m2 k2 s2 t2) (hb : zz_bd cs p) (hF : zz_R cs n p q = F) : ∃ k : Nat, p ≤ k ∧ k ≤ n ∧ k2 = nI k ∧ zz_td cs n k m2 s2 t2 ∧ zz_bd cs k ∧ zz_R cs n k q = F := by
  obtain ⟨k, a, b, c, d, e⟩ := h
  exact ⟨k, a, b, c, e, zz_bd_blank hb a d, (zz_R_blank k a b d).symm.trans hF⟩
/-- a token that isn't wanted -/
theorem zz_F_ne {cs : Nat → Int32} {n k m2 : Nat} {s2 t2 : Int32} {q : zz_Q} {F : Nat × Int32 × zz_Q} (h : zz_td cs n k m2 s2 t2) (hk : k ≤ n) (hb : zz_bd cs k) (hF : zz_R cs n k q = F) (hq : q.1 = 1 ∨ q.1 = 2 ∨ q.1 = 3) (hs : ¬ s2 = nI q.1) (h1 : k = n → ¬ q.1 = 1) : F.1 = 1 ∧ F.2.1 = nI k := by
  by_cases e : k = n
  · subst e
    rw [zz_R_end, if_neg (h1 rfl)] at hF
    rw [← hF]; exact ⟨rfl, rfl⟩
  · have hk2 : k < n := by omega
    have hbt := zz_bd_bt hb (zz_td_ne0 h hk2)
    have ht : zz_tk cs n k q = (1, q) := by
      rcases h with h | ⟨_, g1, _, g2⟩ | ⟨_, g1, g2, _⟩ | ⟨_, _, c⟩
      · omega
      · rcases hq with hq | hq | hq
        · rcases g2 with ⟨g2, _⟩ | ⟨w, _, _, _, g3⟩
          · exact zz_tk_w1 g1 hq g2
          · exact absurd (by rw [g3, hq]; rfl) hs
        · exact zz_tk_ne (by rw [g1, hq]; decide)
        · exact zz_tk_ne (by rw [g1, hq]; decide)
      · refine zz_tk_ne (fun z => hs ?_)
        rw [g2, ← z, g1]
      · rcases c with ⟨c1, c2⟩ | ⟨c1, c2⟩
        · exact zz_tk_ne (fun z => hs (by rw [c2, ← z, c1]))
        · exact zz_tk_ne (fun z => hs (by rw [c2, ← z, c1]))
    rw [zz_R_bad hk2 hbt (by rw [ht]; exact fun z => absurd (show (1 : Nat) = 0 from z) (by decide)), ht] at hF
    rw [← hF]; exact ⟨rfl, rfl⟩
/-- a word that is told a second time -/
theorem zz_F_w2 {cs : Nat → Int32} {n k m2 w : Nat} {s2 t2 : Int32} {q : zz_Q} {F : Nat × Int32 × zz_Q} (h : zz_td cs n k m2 s2 t2) (hk : k ≤ n) (hb : zz_bd cs k) (hF : zz_R cs n k q = F) (hq : q.1 = 1) (hs : s2 = 1) (ht : t2 = nI w) (hw : w < 7) (hn : q.2.2.1 w = true) : F.1 = 2 ∧ F.2.1 = nI k := by
  rcases h with ⟨_, _, h⟩ | h | ⟨_, _, h, _⟩ | ⟨_, _, ⟨_, h⟩ | ⟨_, h⟩⟩
  · rw [hs] at h; exact absurd h (by decide)
  · obtain ⟨hk2, h1, ⟨m, a, b, c, d, e⟩, g⟩ := h
    rcases g with ⟨_, g⟩ | ⟨v, v7, gv, gt, _⟩
    · rw [hs] at g; exact absurd g (by decide)
    · have ew : w = v := zz_nI_inj (by omega) (by omega) (ht.symm.trans gt)
      subst ew
      have tk := zz_tk_w2 (n := n) h1 hq hw gv hn
      rw [zz_R_bad hk2 (zz_bd_bt hb (by rw [h1]; decide)) (by rw [tk]; exact fun z => absurd (show (2 : Nat) = 0 from z) (by decide)), tk] at hF
      rw [← hF]; exact ⟨rfl, rfl⟩
  · rw [hs] at h; exact absurd h (by decide)
  · rw [hs] at h; exact absurd h (by decide)
  · rw [hs] at h; exact absurd h (by decide)
/-- a word's token tells a word -/
theorem zz_td_word {cs : Nat → Int32} {n k m2 : Nat} {s2 t2 : Int32} (h : zz_td cs n k m2 s2 t2) (hs : s2 = 1) : k < n ∧ ∃ w : Nat, w < 7 ∧ t2 = nI w := by
  rcases h with ⟨_, _, h⟩ | ⟨a, _, _, g⟩ | ⟨_, _, h, _⟩ | ⟨_, _, ⟨_, h⟩ | ⟨_, h⟩⟩
  · rw [hs] at h; exact absurd h (by decide)
  · rcases g with ⟨_, g⟩ | ⟨v, v7, _, gt, _⟩
    · rw [hs] at g; exact absurd g (by decide)
    · exact ⟨a, v, v7, gt⟩
  · rw [hs] at h; exact absurd h (by decide)
  · rw [hs] at h; exact absurd h (by decide)
  · rw [hs] at h; exact absurd h (by decide)
theorem zz_F_w0 {cs : Nat → Int32} {n k m2 w : Nat} {s2 t2 : Int32} {q : zz_Q} {F : Nat × Int32 × zz_Q} (h : zz_td cs n k m2 s2 t2) (hb : zz_bd cs k) (hF : zz_R cs n k q = F) (hq : q.1 = 1) (hs : s2 = 1) (ht : t2 = nI w) (hw : w < 7) (hn : ¬ q.2.2.1 w = true) : zz_R cs n m2 (2, w, zz_ub q.2.2.1 w, q.2.2.2.1, q.2.2.2.2) = F := by
  have h0 := h
  rcases h with ⟨_, _, h⟩ | h | ⟨_, _, h, _⟩ | ⟨_, _, ⟨_, h⟩ | ⟨_, h⟩⟩
  · rw [hs] at h; exact absurd h (by decide)
  · obtain ⟨hk2, h1, _, g⟩ := h
    rcases g with ⟨_, g⟩ | ⟨v, v7, gv, gt, _⟩
    · rw [hs] at g; exact absurd g (by decide)
    · have ew : w = v := zz_nI_inj (by omega) (by omega) (ht.symm.trans gt)
      subst ew
      have tk := zz_tk_w0 (n := n) h1 hq hw gv hn
      rw [zz_R_ok hk2 (zz_bd_bt hb (by rw [h1]; decide)) (by rw [tk]), tk, zz_td_skip h0 hk2] at hF
      exact hF
  · rw [hs] at h; exact absurd h (by decide)
  · rw [hs] at h; exact absurd h (by decide)
  · rw [hs] at h; exact absurd h (by decide)
theorem zz_lh7 : ∀ w : Nat, w < 7 → 0 ≤ (zz_lo7 w).toInt ∧ (zz_hi7 w).toInt ≤ 999 := by decide
/-- a number: told and within, or not -/
theorem zz_F_n {cs : Nat → Int32} {n k m2 : Nat} {s2 t2 : Int32} {q : zz_Q} {F : Nat × Int32 × zz_Q} (h : zz_td cs n k m2 s2 t2) (hb : zz_bd cs k) (hF : zz_R cs n k q = F) (hq : q.1 = 2) (hw : q.2.1 < 7) (hs : s2 = 2) : k < n ∧ (((zz_lo7 q.2.1).toInt ≤ t2.toInt ∧ t2.toInt ≤ (zz_hi7 q.2.1).toInt) → zz_R cs n m2 (3, q.2.1, q.2.2.1, q.2.2.2.1, upd q.2.2.2.2 q.2.1 t2) = F) ∧ (¬ ((zz_lo7 q.2.1).toInt ≤ t2.toInt ∧ t2.toInt ≤ (zz_hi7 q.2.1).toInt) → F.1 = 3 ∧ F.2.1 = nI k) := by
  have h0 := h
  have lh := zz_lh7 q.2.1 hw
  rcases h with ⟨_, _, h⟩ | ⟨_, _, _, g⟩ | h | ⟨_, _, ⟨_, h⟩ | ⟨_, h⟩⟩
  · rw [hs] at h; exact absurd h (by decide)
  · rcases g with ⟨_, g⟩ | ⟨v, _, _, _, g⟩
    · rw [hs] at g; exact absurd g (by decide)
    · rw [hs] at g; exact absurd g (by decide)
  · obtain ⟨hk2, h1, _, m, a, b, c, d, e, t⟩ := h
    have rl : zz_rl cs 2 (n - k) k = m := zz_rl_eq (n - k) k m (by omega) d (fun _ => e)
    obtain ⟨t0, t1, tv⟩ := t
    have bt := zz_bd_bt hb (by rw [h1]; decide)
    refine ⟨hk2, fun hr => ?_, fun hr => ?_⟩
    · have ev : (zz_nv cs k m : Int) = t2.toInt := by omega
      have tk := zz_tk_n0 (n := n) h1 hq (by rw [rl]; omega)
      rw [rl] at tk
      have et : nI (zz_nv cs k m) = t2 := by
        rw [← Int32.toInt_inj, zz_toInt _ (by omega)]; exact ev
      rw [zz_R_ok hk2 bt (by rw [tk]), tk, et, zz_td_skip h0 hk2] at hF
      exact hF
    · have tk := zz_tk_n3 (n := n) h1 hq (by rw [rl]; omega)
      rw [zz_R_bad hk2 bt (by rw [tk]; exact fun z => absurd (show (3 : Nat) = 0 from z) (by decide)), tk] at hF
      rw [← hF]; exact ⟨rfl, rfl⟩
  · rw [hs] at h; exact absurd h (by decide)
  · rw [hs] at h; exact absurd h (by decide)
theorem zz_F_s {cs : Nat → Int32} {n k m2 : Nat} {s2 t2 : Int32} {q : zz_Q} {F : Nat × Int32 × zz_Q} (h : zz_td cs n k m2 s2 t2) (hb : zz_bd cs k) (hF : zz_R cs n k q = F) (hq : q.1 = 3) (hs : s2 = 3) : k < n ∧ zz_R cs n m2 (1, q.2.1, q.2.2.1, q.2.2.2.1 + 1, q.2.2.2.2) = F := by
  have h0 := h
  rcases h with ⟨_, _, h⟩ | ⟨_, _, _, g⟩ | ⟨_, _, h, _⟩ | ⟨hk2, _, ⟨h1, h⟩ | ⟨_, h⟩⟩
  · rw [hs] at h; exact absurd h (by decide)
  · rcases g with ⟨_, g⟩ | ⟨v, _, _, _, g⟩
    · rw [hs] at g; exact absurd g (by decide)
    · rw [hs] at g; exact absurd g (by decide)
  · rw [hs] at h; exact absurd h (by decide)
  · have tk := zz_tk_s (n := n) h1 hq
    rw [zz_R_ok hk2 (zz_bd_bt hb (by rw [h1]; decide)) (by rw [tk]), tk, zz_td_skip h0 hk2] at hF
    exact ⟨hk2, hF⟩
  · rw [hs] at h; exact absurd h (by decide)
theorem zz_il1 {r x : Int32} (e : r = zz_il x) (h : ¬ r = 0) : (97 ≤ x.toInt ∧ x.toInt ≤ 122) ∨ (65 ≤ x.toInt ∧ x.toInt ≤ 90) := by
  unfold zz_il at e
  by_cases z : (97 ≤ x.toInt ∧ x.toInt ≤ 122) ∨ (65 ≤ x.toInt ∧ x.toInt ≤ 90)
  · exact z
  · rw [if_neg z] at e; exact absurd e h
theorem zz_il0 {r x : Int32} (e : r = zz_il x) (h : r = 0) : ¬ ((97 ≤ x.toInt ∧ x.toInt ≤ 122) ∨ (65 ≤ x.toInt ∧ x.toInt ≤ 90)) := by
  intro z
  unfold zz_il at e
  rw [if_pos z, h] at e
  exact absurd e (by decide)
theorem zz_bl_ext {cs : Nat → Int32} {p k : Nat} (h : ∀ i : Nat, p ≤ i → i < k → zz_so (cs i) = 0) (hk : zz_so (cs k) = 0) : ∀ i : Nat, p ≤ i → i < k + 1 → zz_so (cs i) = 0 := by
  intro i hi h2
  by_cases e : i = k
  · subst e; exact hk
  · exact h i hi (by omega)
theorem zz_pos1 {cs : Nat → Int32} {v : Int32} {k j : Nat} (h : zz_so (cs k) = v) (he : ¬ zz_so (cs (k + j)) = v) : 1 ≤ j := by
  rcases Nat.eq_zero_or_pos j with z | z
  · subst z; exact absurd h he
  · exact z
theorem zz_so_4 {y : Int32} (h0 : ¬ zz_so y = 0) (h1 : ¬ zz_so y = 1) (h2 : ¬ zz_so y = 2) (h3 : ¬ zz_so y = 3) : zz_so y = 4 := by
  rcases zz_so_cases y with h | h | h | h | h
  · exact absurd h h0
  · exact absurd h h1
  · exact absurd h h2
  · exact absurd h h3
  · exact h
theorem zz_all7 {P : Nat → Prop} (h0 : P 0) (h1 : P 1) (h2 : P 2) (h3 : P 3) (h4 : P 4) (h5 : P 5) (h6 : P 6) : ∀ w : Nat, w < 7 → P w := by
  intro w hw
  rcases (show w = 0 ∨ w = 1 ∨ w = 2 ∨ w = 3 ∨ w = 4 ∨ w = 5 ∨ w = 6 by omega) with rfl | rfl | rfl | rfl | rfl | rfl | rfl
  · exact h0
  · exact h1
  · exact h2
  · exact h3
  · exact h4
  · exact h5
  · exact h6
theorem zz_cmp0 {x : Int64} {y : Int32} (h : lg_cmp x (Int32.toInt64 y) = 0) : x.toInt = y.toInt := by
  unfold lg_cmp at h
  by_cases a : x > Int32.toInt64 y
  · rw [if_pos a] at h; exact absurd h (by decide)
  · rw [if_neg a] at h
    by_cases b : x = Int32.toInt64 y
    · rw [b, Int32.toInt_toInt64]
    · rw [if_neg b] at h; exact absurd h (by decide)
theorem zz_cmpN {x : Int64} {y : Int32} (h : ¬ lg_cmp x (Int32.toInt64 y) = 0) : ¬ x.toInt = y.toInt := by
  intro z
  refine h ?_
  have e : x = Int32.toInt64 y := by rw [← Int64.toInt_inj, Int32.toInt_toInt64]; exact z
  unfold lg_cmp
  rw [if_neg (by rw [e]; exact Int64.lt_irrefl), if_pos e]
