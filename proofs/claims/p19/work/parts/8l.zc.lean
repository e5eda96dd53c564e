theorem zz_and2 {s j : Nat} (h : s.testBit j = false) : s &&& 2 ^ j = 0 := by
  apply Nat.eq_of_testBit_eq
  intro i
  rw [Nat.testBit_and, zz_p2b, Nat.zero_testBit]
  by_cases e : j = i
  · rw [← e, h]; rfl
  · simp [e]
theorem zz_tb0 {s j : Nat} (h : s &&& 2 ^ j = 0) : s.testBit j = false := by
  cases w : s.testBit j with
  | false => rfl
  | true =>
    have a := zz_p2s w
    rw [Nat.and_comm, a] at h
    have := Nat.one_le_two_pow (n := j)
    omega
theorem zz_tb1 {s j : Nat} (h : ¬ s &&& 2 ^ j = 0) : s.testBit j = true := by
  cases w : s.testBit j with
  | true => rfl
  | false => exact absurd (zz_and2 w) h
theorem zz_p2le {j : Nat} (h : j < 8) : 2 ^ j ≤ 128 := by
  have := Nat.pow_le_pow_right (n := 2) (by decide) (show j ≤ 7 by omega)
  exact this
theorem zz_mulm {x : Int32} (h : -930000000 ≤ x.toInt ∧ x.toInt ≤ 930000000) : (x * (-1)).toInt = -x.toInt := by
  rw [Int32.toInt_mul, show ((-1 : Int32)).toInt = -1 from by decide]
  rw [Int.bmod_eq_of_le] <;> omega
theorem zz_lowb : ∀ r : Nat, r < 256 → 1 ≤ r → nI r &&& (-(nI r)) = nI (2 ^ zz_ls r) := by decide +kernel
theorem zz_lowp {q k : Nat} (h : q < 2 ^ k) : q.testBit k = false := Nat.testBit_lt_two_pow h
theorem zz_bvt {g : Nat} (hg : g < 256) (i : Nat) (hi : i < 32) : (nI g).toBitVec.getLsbD i = g.testBit i := by
  have e : (nI g).toBitVec.toNat = g := pk_tn (n := g) (by omega)
  have : (nI g).toBitVec.getLsbD i = ((nI g).toBitVec.toNat).testBit i := rfl
  rw [this, e]
theorem zz_nm1 (i : Nat) (hi : i < 32) : ((-1 : Int32)).toBitVec.getLsbD i = true := by
  have : ∀ i : Nat, i < 32 → ((-1 : Int32)).toBitVec.getLsbD i = true := by decide
  exact this i hi
theorem zz_andn {g r : Nat} (hg : g < 256) (hr : r < 256) (i : Nat) (hi : i < 32) : ((nI g) &&& ((nI r) ^^^ (-1))).toBitVec.getLsbD i = (g.testBit i && !r.testBit i) := by
  rw [Int32.toBitVec_and, Int32.toBitVec_xor, BitVec.getLsbD_and, BitVec.getLsbD_xor, zz_bvt hg i hi, zz_bvt hr i hi, zz_nm1 i hi]
  cases g.testBit i <;> cases r.testBit i <;> rfl
theorem zz_notin {g r : Nat} (hg : g < 256) (hr : r < 256) : ((nI g) &&& ((nI r) ^^^ (-1))) = 0 ↔ g &&& r = g := by
  constructor
  · intro h
    refine zz_sb (fun i hi => ?_)
    have hi8 := zz_b8 hg hi
    have q := zz_andn hg hr i (by omega)
    rw [h, hi] at q
    cases w : r.testBit i with
    | true => rfl
    | false =>
      rw [w] at q
      have : (0 : Int32).toBitVec.getLsbD i = false := by simp
      rw [this] at q; cases q
  · intro h
    apply Int32.toBitVec_inj.mp
    apply BitVec.eq_of_getLsbD_eq
    intro i hi
    rw [zz_andn hg hr i hi]
    have : (0 : Int32).toBitVec.getLsbD i = false := by simp
    rw [this]
    cases w : g.testBit i with
    | false => rfl
    | true => rw [zz_in_of h w]; rfl
theorem zz_lessp {g r : Nat} (hg : g < 256) (hr : r < 256) (h : r &&& g = r) : ((nI g) &&& ((nI r) ^^^ (-1))) = nI (g - r) := by
  apply Int32.toBitVec_inj.mp
  apply BitVec.eq_of_getLsbD_eq
  intro i hi
  rw [zz_andn hg hr i hi, zz_bvt (by omega) i hi, zz_sub_bit hg h]
theorem zz_xorp {g r : Nat} (hg : g < 256) (h : r &&& g = r) : (nI g) ^^^ (nI r) = nI (g - r) := by
  have hr : r < 256 := by have := zz_le_of h; omega
  apply Int32.toBitVec_inj.mp
  apply BitVec.eq_of_getLsbD_eq
  intro i hi
  rw [Int32.toBitVec_xor, BitVec.getLsbD_xor, zz_bvt hg i hi, zz_bvt hr i hi, zz_bvt (by omega) i hi, zz_sub_bit hg h]
  have := zz_in_of (i := i) h
  cases w : g.testBit i <;> cases w2 : r.testBit i <;> simp_all
theorem zz_orp {r j : Nat} (hr : r < 2 ^ j) (hj : j < 8) : (nI r) ||| (nI (2 ^ j)) = nI (r + 2 ^ j) := by
  have p := zz_p2le hj
  have e : r &&& 2 ^ j = 0 := zz_and2 (zz_lowp hr)
  rw [zz_addor (by omega) (by omega) e]
  apply Int32.toBitVec_inj.mp
  apply BitVec.eq_of_getLsbD_eq
  intro i hi
  have hl : r ||| 2 ^ j < 256 := Nat.or_lt_two_pow (n := 8) (by omega) (by omega)
  rw [Int32.toBitVec_or, BitVec.getLsbD_or, zz_bvt (by omega) i hi, zz_bvt (by omega) i hi, zz_bvt hl i hi, Nat.testBit_or]
/-- there is always a part that leaves the most groups -/
theorem zz_Q2_ex {N : Nat → Int32} {c : Nat → Int} (H : zz_RC N c) : ∀ n r : Nat, r < n → r < 256 → 1 ≤ r → zz_is N r 8 = 0 → ∃ p : Nat, zz_Q2 N c r p := by
  intro n
  induction n with
  | zero => intro r h; exact absurd h (Nat.not_lt_zero _)
  | succ n ih =>
    intro x hn hx8 x1 p4
    obtain ⟨m, _, ⟨h, hh, h1, h2⟩, m3⟩ := H.2 x x1 hx8
    rw [if_pos p4] at m3
    have hl := zz_subl hx8 (zz_p2s h1) (Nat.one_le_two_pow)
    obtain ⟨t, t1, t2, t3⟩ := zz_RC_z H (x - 2 ^ h + 1) (x - 2 ^ h) (by omega) (by omega)
    have tx : t &&& x = t := zz_sbt t1 (zz_sub_and hx8 (zz_p2s h1) (Nat.and_self x))
    have tl : t < x := by have := zz_le_of t1; omega
    have sx : (x - t) &&& x = x - t := zz_sub_and hx8 tx (Nat.and_self x)
    have sz : zz_is N (x - t) 8 = 0 := by have := zz_is_sub (F := N) hx8 tx 8; omega
    by_cases hb : (x - t).testBit (zz_ls x) = true
    · refine ⟨x - t, by omega, sx, hb, sz, ?_⟩
      rw [show x - (x - t) = t by omega]; omega
    · have hbt : t.testBit (zz_ls x) = true := by
        have q := (zz_ls_in x hx8 x1).1
        rw [zz_sub_bit hx8 tx, q] at hb
        cases w : t.testBit (zz_ls x) <;> simp_all
      have t1' : 1 ≤ t := by
        rcases Nat.eq_zero_or_pos t with z | z
        · rw [z, Nat.zero_testBit] at hbt; cases hbt
        · exact z
      have t8 : t < 256 := by omega
      obtain ⟨r, r1, r2, r3, r4, r5⟩ := ih t (by omega) t8 t1' t2
      have rx : r &&& x = r := zz_sbt r2 tx
      have rl : x - r < x := zz_subl hx8 rx r1
      have rxz : zz_is N (x - r) 8 = 0 := by have := zz_is_sub (F := N) hx8 rx 8; omega
      have sub : (t - r) &&& (x - r) = t - r := zz_sb (fun i hi => by
        have a := zz_sub_in t8 r2 hi
        rw [zz_sub_bit hx8 rx, zz_in_of tx a.1, a.2]; rfl)
      have cc := (zz_RC_le H (x - r + 1) (x - r) (t - r) (by omega) (by omega) sub).2 rxz (by have := zz_le_of r2; omega)
      have rs : (x - r) &&& x = x - r := zz_sub_and hx8 rx (Nat.and_self x)
      have cd := (zz_RC_le H (x + 1) x (x - r) (by omega) hx8 rs).2 p4 (by omega)
      exact ⟨r, r1, rx, by rw [← zz_ls_sub hx8 tx x1 hbt]; exact r3, r4, by omega⟩
theorem zz_LQ_end {N : Nat → Int32} {c : Nat → Int} {r j : Nat} (H : zz_RC N c) (hr : r < 256) (h1 : 1 ≤ r) (hz : zz_is N r 8 = 0) (hj : r ≤ j) (hn : ∀ q : Nat, q < j → ¬ zz_Q2 N c r q) : zz_LQ N c r r := by
  obtain ⟨p, hp⟩ := zz_Q2_ex H (r + 1) r (by omega) hr h1 hz
  have pl := zz_le_of hp.2.1
  have e : p = r := by
    rcases Nat.lt_or_ge p r with z | z
    · exact absurd hp (hn p (by omega))
    · omega
  rw [e] at hp
  exact ⟨hp, fun q hq => hn q (by omega)⟩
theorem zz_cn_0 {g : Nat → Int32} : ∀ n : Nat, zz_cn g n = 0 → ∀ h : Nat, h < n → g h = 0 := by
  intro n hn h hh
  refine Classical.byContradiction (fun z => ?_)
  have := zz_cn_pos z n hh
  omega
theorem zz_cn_dec {g u : Nat → Int32} : ∀ n : Nat, (∀ h : Nat, h < n → u h = g h ∨ u h = 0) → zz_cn u n ≤ zz_cn g n ∧ ((∃ h : Nat, h < n ∧ ¬ g h = 0 ∧ u h = 0) → zz_cn u n + 1 ≤ zz_cn g n) := by
  intro n
  induction n with
  | zero => intro _; exact ⟨Nat.le_refl _, fun ⟨h, hh, _⟩ => absurd hh (Nat.not_lt_zero _)⟩
  | succ n ih =>
    intro e
    obtain ⟨i1, i2⟩ := ih (fun h hh => e h (by omega))
    have hn := e n (by omega)
    rw [zz_cn, zz_cn]
    refine ⟨?_, fun ⟨h, hh, h1, h2⟩ => ?_⟩
    · rcases hn with z | z
      · rw [z]; omega
      · rw [if_pos z]; omega
    · by_cases q : h = n
      · rw [q] at h1 h2
        rw [if_pos h2, if_neg h1]; omega
      · have := i2 ⟨h, by omega, h1, h2⟩
        rcases hn with z | z
        · rw [z]; omega
        · rw [if_pos z]; omega
theorem zz_lf_same {g : Nat → Int32} {x j : Nat} (h : zz_lf g x j) (hj : j < 8) : (g j = 0 → zz_lf g x (j + 1)) ∧ (¬ g j = 0 → zz_lf g (x + 2 ^ j) (j + 1)) := by
  refine ⟨fun z => ?_, fun z => ?_⟩
  · have := zz_lf_z (v := g j) h z hj
    rw [zz_updc (by omega), zz_upd0] at this; exact this
  · have := zz_lf_n (v := g j) h z hj
    rw [zz_updc (by omega), zz_upd0] at this; exact this
