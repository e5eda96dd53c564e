/-- of the parts below k the best is kept -/
def zz_gj (f gr : Nat → Int32) (n x k : Nat) : Prop := (gr x = -1 ∧ ∀ p : Nat, p < k → ¬ zz_q f gr n x p) ∨ (1 ≤ (gr x).toInt ∧ (gr x).toInt ≤ (x : Int) ∧ (∃ p : Nat, zz_q f gr n x p ∧ gr (x - p) + 1 = gr x) ∧ ∀ p : Nat, p < k → zz_q f gr n x p → (gr (x - p)).toInt + 1 ≤ (gr x).toInt)
theorem zz_gj_gi {f gr : Nat → Int32} {n x k : Nat} (h : zz_gj f gr n x k) : zz_gi f gr n x k := by
  rcases h with h | ⟨a, b, c, _⟩
  · exact Or.inl h
  · exact Or.inr ⟨a, b, c⟩
theorem zz_gj_0 {f gr : Nat → Int32} {n x : Nat} : zz_gj f (upd gr x (-1)) n x 1 := by
  refine Or.inl ⟨by simp [upd], fun p hp hq => ?_⟩
  have := hq.1
  omega
theorem zz_gj_no {f gr : Nat → Int32} {n x k : Nat} (h : zz_gj f gr n x k) (hk : ¬ zz_q f gr n x k) : zz_gj f gr n x (k + 1) := by
  rcases h with ⟨a, b⟩ | ⟨a, b, c, d⟩
  · refine Or.inl ⟨a, fun p hp => ?_⟩
    by_cases e : p = k
    · subst e; exact hk
    · exact b p (by omega)
  · refine Or.inr ⟨a, b, c, fun p hp hq => ?_⟩
    by_cases e : p = k
    · subst e; exact absurd hq hk
    · exact d p (by omega) hq
theorem zz_gadd {gr : Nat → Int32} {y : Nat} (h0 : 0 ≤ (gr y).toInt) (h1 : (gr y).toInt ≤ 1000) : (gr y + 1).toInt = (gr y).toInt + 1 := by
  rw [Int32.toInt_add, show (1 : Int32).toInt = 1 from by decide]
  rw [Int.bmod_eq_of_le] <;> omega
theorem zz_gj_newC {f gr : Nat → Int32} {n x k : Nat} (h : zz_gj f gr n x k) (hx : 1 ≤ x) (hq : zz_q f gr n x k) (hg : (gr (x - k)).toInt ≤ ((x - k : Nat) : Int)) (hx2 : x < 256) (hv : (gr x).toInt < (gr (x - k) + 1).toInt) : zz_gj f (upd gr (Int32.toNatClampNeg (nI x)) (gr (x - k) + 1)) n x (k + 1) := by
  rw [zz_cl (by omega)]
  have hk := hq.1
  have hk2 := hq.2.1
  have hg0 := hq.2.2.2.2.2
  have e1 := zz_gadd (gr := gr) (y := x - k) hg0 (by omega)
  have low : ∀ p : Nat, 1 ≤ p → p ≤ x → upd gr x (gr (x - k) + 1) (x - p) = gr (x - p) := fun p a b => zz_up_n (by omega)
  refine Or.inr ⟨?_, ?_, ⟨k, (zz_q_upd hx).mpr hq, ?_⟩, fun p hp z => ?_⟩
  · rw [zz_up_s]; omega
  · rw [zz_up_s]; omega
  · rw [zz_up_s, low k hk hk2]
  · have z2 := (zz_q_upd hx).mp z
    rw [zz_up_s, low p z2.1 z2.2.1]
    by_cases e : p = k
    · rw [e]; omega
    · rcases h with ⟨a, b⟩ | ⟨a, b, c, d⟩
      · exact absurd z2 (b p (by omega))
      · have := d p (by omega) z2; omega
theorem zz_gj_keepC {f gr : Nat → Int32} {n x k : Nat} (h : zz_gj f gr n x k) (hx : 1 ≤ x) (hq : zz_q f gr n x k) (hg : (gr (x - k)).toInt ≤ ((x - k : Nat) : Int)) (hx2 : x < 256) (hv : ¬ (gr x).toInt < (gr (x - k) + 1).toInt) : zz_gj f (upd gr (Int32.toNatClampNeg (nI x)) (gr x)) n x (k + 1) := by
  rw [zz_cl (by omega), zz_upd0]
  have hk := hq.1
  have hk2 := hq.2.1
  have hg0 := hq.2.2.2.2.2
  have e1 := zz_gadd (gr := gr) (y := x - k) hg0 (by omega)
  rcases h with ⟨a, b⟩ | ⟨a, b, c, d⟩
  · rw [a, show (-1 : Int32).toInt = -1 from by decide] at hv
    omega
  · refine Or.inr ⟨a, b, c, fun p hp z => ?_⟩
    by_cases e : p = k
    · rw [e]; omega
    · exact d p (by omega) z
def zz_gs3 (f gr : Nat → Int32) (n x : Nat) : Prop := (∃ p : Nat, zz_q f gr n x p ∧ gr (x - p) + 1 = gr x ∧ ∀ q : Nat, zz_q f gr n x q → (gr (x - q)).toInt + 1 ≤ (gr x).toInt) ∨ (gr x = -1 ∧ ∀ p : Nat, ¬ zz_q f gr n x p)
def zz_gp3 (f gr : Nat → Int32) (n al k : Nat) : Prop := zz_gp f gr n al k ∧ ∀ x : Nat, 1 ≤ x → x < k → x &&& al = x → zz_gs3 f gr n x
theorem zz_gp3_upd {f gr : Nat → Int32} {n al x : Nat} {v : Int32} (h : zz_gp3 f gr n al x) (hx : 1 ≤ x) : zz_gp3 f (upd gr x v) n al x := by
  refine ⟨zz_gp_upd h.1 hx, fun y h1 h2 h3 => ?_⟩
  have hq : ∀ p : Nat, zz_q f (upd gr x v) n y p ↔ zz_q f gr n y p := by
    intro p
    unfold zz_q
    simp only [upd, if_neg (show ¬ y - p = x by omega)]
  rcases h.2 y h1 h2 h3 with ⟨p, a, b, c⟩ | ⟨a, b⟩
  · refine Or.inl ⟨p, (hq p).mpr a, ?_, fun q z => ?_⟩
    · rw [zz_up_n (by omega), zz_up_n (by omega)]; exact b
    · rw [zz_up_n (by omega), zz_up_n (by omega)]; exact c q ((hq q).mp z)
  · exact Or.inr ⟨by rw [zz_up_n (by omega)]; exact a, fun p z => b p ((hq p).mp z)⟩
theorem zz_gp3_updC {f gr : Nat → Int32} {n al x : Nat} {v : Int32} (h : zz_gp3 f gr n al x) (hx : 1 ≤ x) (hx2 : x < 256) : zz_gp3 f (upd gr (Int32.toNatClampNeg (nI x)) v) n al x := by
  rw [zz_cl (by omega)]; exact zz_gp3_upd h hx
theorem zz_gp3_1 {f gr : Nat → Int32} {n al : Nat} : zz_gp3 f (upd gr (Int32.toNatClampNeg 0) 0) n al 1 := ⟨zz_gp_1, fun x h1 h2 => absurd h2 (by omega)⟩
theorem zz_gp3_next {f gr : Nat → Int32} {n al x k : Nat} (h : zz_gp3 f gr n al x) (hx : 1 ≤ x) (hi : zz_gj f gr n x k) (hk : k = x + 1 ∨ ¬ x &&& al = x) : zz_gp3 f gr n al (x + 1) := by
  refine ⟨zz_gp_next h.1 hx (zz_gj_gi hi) hk, fun y h1 h2 h3 => ?_⟩
  by_cases e : y = x
  · subst e
    rcases hk with hk | hk
    · rcases hi with ⟨a, b⟩ | ⟨a, b, ⟨p, c1, c2⟩, d⟩
      · exact Or.inr ⟨a, fun p hp => b p (by have := hp.2.1; omega) hp⟩
      · exact Or.inl ⟨p, c1, c2, fun q z => d q (by have := z.2.1; omega) z⟩
    · exact absurd h3 hk
  · exact h.2 y h1 (by omega) h3
theorem zz_is8 {f : Nat → Int32} {p n : Nat} (hn : n ≤ 8) (h : ∀ i : Nat, n ≤ i → p.testBit i = false) : zz_is f p 8 = zz_is f p n := by
  have : ∀ k : Nat, zz_is f p (n + k) = zz_is f p n := by
    intro k
    induction k with
    | zero => rfl
    | succ k ih => rw [← Nat.add_assoc, zz_is, ih, h (n + k) (by omega)]; simp
  have q := this (8 - n)
  rw [show n + (8 - n) = 8 by omega] at q
  exact q
theorem zz_hib {al n x : Nat} (ha : al < 2 ^ n) (hx : x &&& al = x) : ∀ i : Nat, n ≤ i → x.testBit i = false := by
  intro i hi
  cases w : x.testBit i with
  | false => rfl
  | true =>
    have a := zz_in_of hx w
    rw [Nat.testBit_lt_two_pow (Nat.lt_of_lt_of_le ha (Nat.pow_le_pow_right (by decide) hi))] at a
    cases a
theorem zz_gp3_RG {f gr : Nat → Int32} {n al : Nat} (hn : n ≤ 8) (ha : al < 2 ^ n) (ha8 : al < 256) (hb : ∀ p : Nat, -930000000 ≤ zz_is f p n ∧ zz_is f p n ≤ 930000000) (h : zz_gp3 f gr n al (al + 1)) : zz_RG f (fun s => (gr s).toInt) al := by
  have vq : ∀ x : Nat, x &&& al = x → ∀ p : Nat, zz_v f (fun s => (gr s).toInt) x p ↔ zz_q f gr n x p := by
    intro x hx p
    constructor
    · rintro ⟨a, b, c, d, e⟩
      refine ⟨a, zz_le_of b, b, c, ?_, e⟩
      rw [← zz_is8 hn (zz_hib ha (zz_sbt b hx)), d]; decide
    · rintro ⟨a, _, b, c, d, e⟩
      refine ⟨a, b, c, ?_, e⟩
      rw [zz_is8 hn (zz_hib ha (zz_sbt b hx))]
      exact zz_oi_z (by have := hb p; omega) (by have := hb p; omega) d
  refine ⟨by show (gr 0).toInt = 0; rw [h.1.1]; decide, fun x h1 h2 => ?_⟩
  have hl := zz_le_of h2
  rcases h.2 x h1 (by omega) h2 with ⟨p, a, b, c⟩ | ⟨a, b⟩
  · refine Or.inl ⟨p, (vq x h2 p).mpr a, ?_, fun q z => c q ((vq x h2 q).mp z)⟩
    show (gr x).toInt = (gr (x - p)).toInt + 1
    have r := h.1.2.1 (x - p) (by omega)
    rw [← b, zz_gadd a.2.2.2.2.2 (by omega)]
  · exact Or.inr ⟨by show (gr x).toInt = -1; rw [a]; decide, fun q z => b q ((vq x h2 q).mp z)⟩
/-- the least of them, from above -/
def zz_f3 (P : Nat → Prop) (y : Int32) (w n : Nat) : Prop := (y = -1 ∧ ∀ h : Nat, w ≤ h → h < n → ¬ P h) ∨ ∃ q : Nat, w ≤ q ∧ q < n ∧ y = nI q ∧ P q ∧ ∀ h : Nat, w ≤ h → h < q → ¬ P h
theorem zz_f3_0 {P : Nat → Prop} {n : Nat} : zz_f3 P (-1) n n := Or.inl ⟨rfl, fun h h1 h2 => absurd h1 (by omega)⟩
theorem zz_f3_no {P : Nat → Prop} {y : Int32} {w n : Nat} (h : zz_f3 P y w n) (hw : 1 ≤ w) (hp : ¬ P (w - 1)) : zz_f3 P y (w - 1) n := by
  have ex : ∀ k : Nat, w - 1 ≤ k → ¬ w ≤ k → ¬ P k := fun k a b => by rw [show k = w - 1 by omega]; exact hp
  rcases h with ⟨a, b⟩ | ⟨q, a, b, c, d, e⟩
  · refine Or.inl ⟨a, fun k h1 h2 => ?_⟩
    by_cases z : w ≤ k
    · exact b k z h2
    · exact ex k h1 z
  · refine Or.inr ⟨q, by omega, b, c, d, fun k h1 h2 => ?_⟩
    by_cases z : w ≤ k
    · exact e k z h2
    · exact ex k h1 z
theorem zz_f3_yes {P : Nat → Prop} {w n : Nat} (hw : 1 ≤ w) (hn : w ≤ n) (hp : P (w - 1)) : zz_f3 P (nI (w - 1)) (w - 1) n := Or.inr ⟨w - 1, Nat.le_refl _, by omega, rfl, hp, fun h h1 h2 => absurd h1 (by omega)⟩
