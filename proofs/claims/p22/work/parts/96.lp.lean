def zz_K0 (a : Nat → Nat) (ad : Nat) : Nat := if (List.range 8).any (fun j => ad == a (2 + j)) = true then 4 else 3
def zz_V0 (a : Nat → Nat) (ad j : Nat) : Int32 := if zz_K0 a ad = 3 ∧ 5 ≤ j then -1 else 0
def zz_L0 (a : Nat → Nat) : List Nat := [a 2, a 3, a 4, a 5, a 6, a 7, a 8, a 9, a 11, a 12, a 13, a 14, a 15, a 16, a 17, a 18, a 19, a 20, a 21, a 22]
theorem zz_K04 {a : Nat → Nat} {k : Nat} (h : k < 8) : zz_K0 a (a (2 + k)) = 4 := by
  unfold zz_K0
  exact if_pos (List.any_eq_true.mpr ⟨k, List.mem_range.mpr h, by simp⟩)
theorem zz_K03 {a : Nat → Nat} {ad : Nat} (h : ∀ j : Nat, j < 8 → ¬ ad = a (2 + j)) : zz_K0 a ad = 3 := if_neg (fun z => by
  obtain ⟨j, h1, h2⟩ := List.any_eq_true.mp z
  exact h j (List.mem_range.mp h1) (eq_of_beq h2))
theorem zz_V04 {a : Nat → Nat} {ad j : Nat} (h : zz_K0 a ad = 4) : zz_V0 a ad j = 0 := if_neg (fun z => by rw [h] at z; exact absurd z.1 (by decide))
theorem zz_V03 {a : Nat → Nat} {ad j : Nat} (h : zz_K0 a ad = 3) (hj : ¬ 5 ≤ j) : zz_V0 a ad j = 0 := if_neg (fun z => hj z.2)
theorem zz_V03n {a : Nat → Nat} {ad j : Nat} (h : zz_K0 a ad = 3) (hj : 5 ≤ j) : zz_V0 a ad j = -1 := if_pos ⟨h, hj⟩
theorem zz_F04 {a : Nat → Nat} {ad : Nat} (h : zz_K0 a ad = 4) : (ad, zz_F (zz_K0 a) (zz_V0 a) ad) = (ad, (.inr (4, [.int 0, .int 0, .int 0, .int 0, .int 0, .int 0, .int 0, .int 0, .int 0]) : va_E)) := by
  rw [zz_F4 h]; simp only [zz_V04 h]
theorem zz_F03 {a : Nat → Nat} {ad : Nat} (h : zz_K0 a ad = 3) : (ad, zz_F (zz_K0 a) (zz_V0 a) ad) = (ad, (.inr (3, [.int 0, .int 0, .int 0, .int 0, .int 0, .int (-1), .int (-1)]) : va_E)) := by
  rw [zz_F3 h, zz_V03 h (by decide), zz_V03 h (by decide), zz_V03 h (by decide), zz_V03 h (by decide), zz_V03 h (by decide), zz_V03n h (by decide), zz_V03n h (by decide)]
theorem zz_pool0 {a : Nat → Nat} (h : ∀ i : Nat, i < 12 → ∀ j : Nat, j < 8 → ¬ a (11 + i) = a (2 + j)) : va_pl (zz_L0 a) (zz_F (zz_K0 a) (zz_V0 a)) = [(a 2, .inr (4, [.int 0, .int 0, .int 0, .int 0, .int 0, .int 0, .int 0, .int 0, .int 0])), (a 3, .inr (4, [.int 0, .int 0, .int 0, .int 0, .int 0, .int 0, .int 0, .int 0, .int 0])), (a 4, .inr (4, [.int 0, .int 0, .int 0, .int 0, .int 0, .int 0, .int 0, .int 0, .int 0])), (a 5, .inr (4, [.int 0, .int 0, .int 0, .int 0, .int 0, .int 0, .int 0, .int 0, .int 0])), (a 6, .inr (4, [.int 0, .int 0, .int 0, .int 0, .int 0, .int 0, .int 0, .int 0, .int 0])), (a 7, .inr (4, [.int 0, .int 0, .int 0, .int 0, .int 0, .int 0, .int 0, .int 0, .int 0])), (a 8, .inr (4, [.int 0, .int 0, .int 0, .int 0, .int 0, .int 0, .int 0, .int 0, .int 0])), (a 9, .inr (4, [.int 0, .int 0, .int 0, .int 0, .int 0, .int 0, .int 0, .int 0, .int 0])), (a 11, .inr (3, [.int 0, .int 0, .int 0, .int 0, .int 0, .int (-1), .int (-1)])), (a 12, .inr (3, [.int 0, .int 0, .int 0, .int 0, .int 0, .int (-1), .int (-1)])), (a 13, .inr (3, [.int 0, .int 0, .int 0, .int 0, .int 0, .int (-1), .int (-1)])), (a 14, .inr (3, [.int 0, .int 0, .int 0, .int 0, .int 0, .int (-1), .int (-1)])), (a 15, .inr (3, [.int 0, .int 0, .int 0, .int 0, .int 0, .int (-1), .int (-1)])), (a 16, .inr (3, [.int 0, .int 0, .int 0, .int 0, .int 0, .int (-1), .int (-1)])), (a 17, .inr (3, [.int 0, .int 0, .int 0, .int 0, .int 0, .int (-1), .int (-1)])), (a 18, .inr (3, [.int 0, .int 0, .int 0, .int 0, .int 0, .int (-1), .int (-1)])), (a 19, .inr (3, [.int 0, .int 0, .int 0, .int 0, .int 0, .int (-1), .int (-1)])), (a 20, .inr (3, [.int 0, .int 0, .int 0, .int 0, .int 0, .int (-1), .int (-1)])), (a 21, .inr (3, [.int 0, .int 0, .int 0, .int 0, .int 0, .int (-1), .int (-1)])), (a 22, .inr (3, [.int 0, .int 0, .int 0, .int 0, .int 0, .int (-1), .int (-1)]))] := by
  show [(a 2, zz_F (zz_K0 a) (zz_V0 a) (a 2)), (a 3, zz_F (zz_K0 a) (zz_V0 a) (a 3)), (a 4, zz_F (zz_K0 a) (zz_V0 a) (a 4)), (a 5, zz_F (zz_K0 a) (zz_V0 a) (a 5)), (a 6, zz_F (zz_K0 a) (zz_V0 a) (a 6)), (a 7, zz_F (zz_K0 a) (zz_V0 a) (a 7)), (a 8, zz_F (zz_K0 a) (zz_V0 a) (a 8)), (a 9, zz_F (zz_K0 a) (zz_V0 a) (a 9)), (a 11, zz_F (zz_K0 a) (zz_V0 a) (a 11)), (a 12, zz_F (zz_K0 a) (zz_V0 a) (a 12)), (a 13, zz_F (zz_K0 a) (zz_V0 a) (a 13)), (a 14, zz_F (zz_K0 a) (zz_V0 a) (a 14)), (a 15, zz_F (zz_K0 a) (zz_V0 a) (a 15)), (a 16, zz_F (zz_K0 a) (zz_V0 a) (a 16)), (a 17, zz_F (zz_K0 a) (zz_V0 a) (a 17)), (a 18, zz_F (zz_K0 a) (zz_V0 a) (a 18)), (a 19, zz_F (zz_K0 a) (zz_V0 a) (a 19)), (a 20, zz_F (zz_K0 a) (zz_V0 a) (a 20)), (a 21, zz_F (zz_K0 a) (zz_V0 a) (a 21)), (a 22, zz_F (zz_K0 a) (zz_V0 a) (a 22))] = _
  rw [zz_F04 (zz_K04 (a := a) (k := 0) (by decide)), zz_F04 (zz_K04 (a := a) (k := 1) (by decide)), zz_F04 (zz_K04 (a := a) (k := 2) (by decide)), zz_F04 (zz_K04 (a := a) (k := 3) (by decide)), zz_F04 (zz_K04 (a := a) (k := 4) (by decide)), zz_F04 (zz_K04 (a := a) (k := 5) (by decide)), zz_F04 (zz_K04 (a := a) (k := 6) (by decide)), zz_F04 (zz_K04 (a := a) (k := 7) (by decide)), zz_F03 (zz_K03 (h 0 (by decide))), zz_F03 (zz_K03 (h 1 (by decide))), zz_F03 (zz_K03 (h 2 (by decide))), zz_F03 (zz_K03 (h 3 (by decide))), zz_F03 (zz_K03 (h 4 (by decide))), zz_F03 (zz_K03 (h 5 (by decide))), zz_F03 (zz_K03 (h 6 (by decide))), zz_F03 (zz_K03 (h 7 (by decide))), zz_F03 (zz_K03 (h 8 (by decide))), zz_F03 (zz_K03 (h 9 (by decide))), zz_F03 (zz_K03 (h 10 (by decide))), zz_F03 (zz_K03 (h 11 (by decide)))]
theorem zz_H0 {a : Nat → Nat} : ∀ k, k < 8 → a (2 + k) ∈ zz_L0 a ∧ zz_K0 a (a (2 + k)) = 4 := fun k hk => ⟨by
  rcases (show k = 0 ∨ k = 1 ∨ k = 2 ∨ k = 3 ∨ k = 4 ∨ k = 5 ∨ k = 6 ∨ k = 7 by omega) with rfl | rfl | rfl | rfl | rfl | rfl | rfl | rfl <;> simp [zz_L0], zz_K04 hk⟩
theorem zz_F0 {a : Nat → Nat} (h : ∀ i : Nat, i < 12 → ∀ j : Nat, j < 8 → ¬ a (11 + i) = a (2 + j)) : ∀ k, k < 12 → a (11 + k) ∈ zz_L0 a ∧ zz_K0 a (a (11 + k)) = 3 := fun k hk => ⟨by
  rcases (show k = 0 ∨ k = 1 ∨ k = 2 ∨ k = 3 ∨ k = 4 ∨ k = 5 ∨ k = 6 ∨ k = 7 ∨ k = 8 ∨ k = 9 ∨ k = 10 ∨ k = 11 by omega) with rfl | rfl | rfl | rfl | rfl | rfl | rfl | rfl | rfl | rfl | rfl | rfl <;> simp [zz_L0], zz_K03 (h k hk)⟩
theorem zz_dis {A : Nat → Prop} {a : Nat → Nat} (hD : va_D A [(a 2, .inr (4, [.int 0, .int 0, .int 0, .int 0, .int 0, .int 0, .int 0, .int 0, .int 0])), (a 3, .inr (4, [.int 0, .int 0, .int 0, .int 0, .int 0, .int 0, .int 0, .int 0, .int 0])), (a 4, .inr (4, [.int 0, .int 0, .int 0, .int 0, .int 0, .int 0, .int 0, .int 0, .int 0])), (a 5, .inr (4, [.int 0, .int 0, .int 0, .int 0, .int 0, .int 0, .int 0, .int 0, .int 0])), (a 6, .inr (4, [.int 0, .int 0, .int 0, .int 0, .int 0, .int 0, .int 0, .int 0, .int 0])), (a 7, .inr (4, [.int 0, .int 0, .int 0, .int 0, .int 0, .int 0, .int 0, .int 0, .int 0])), (a 8, .inr (4, [.int 0, .int 0, .int 0, .int 0, .int 0, .int 0, .int 0, .int 0, .int 0])), (a 9, .inr (4, [.int 0, .int 0, .int 0, .int 0, .int 0, .int 0, .int 0, .int 0, .int 0])), (a 11, .inr (3, [.int 0, .int 0, .int 0, .int 0, .int 0, .int (-1), .int (-1)])), (a 12, .inr (3, [.int 0, .int 0, .int 0, .int 0, .int 0, .int (-1), .int (-1)])), (a 13, .inr (3, [.int 0, .int 0, .int 0, .int 0, .int 0, .int (-1), .int (-1)])), (a 14, .inr (3, [.int 0, .int 0, .int 0, .int 0, .int 0, .int (-1), .int (-1)])), (a 15, .inr (3, [.int 0, .int 0, .int 0, .int 0, .int 0, .int (-1), .int (-1)])), (a 16, .inr (3, [.int 0, .int 0, .int 0, .int 0, .int 0, .int (-1), .int (-1)])), (a 17, .inr (3, [.int 0, .int 0, .int 0, .int 0, .int 0, .int (-1), .int (-1)])), (a 18, .inr (3, [.int 0, .int 0, .int 0, .int 0, .int 0, .int (-1), .int (-1)])), (a 19, .inr (3, [.int 0, .int 0, .int 0, .int 0, .int 0, .int (-1), .int (-1)])), (a 20, .inr (3, [.int 0, .int 0, .int 0, .int 0, .int 0, .int (-1), .int (-1)])), (a 21, .inr (3, [.int 0, .int 0, .int 0, .int 0, .int 0, .int (-1), .int (-1)])), (a 22, .inr (3, [.int 0, .int 0, .int 0, .int 0, .int 0, .int (-1), .int (-1)]))]) : ∀ i : Nat, i < 12 → ∀ j : Nat, j < 8 → ¬ a (11 + i) = a (2 + j) := by
  intro i hi j hj
  rcases (show i = 0 ∨ i = 1 ∨ i = 2 ∨ i = 3 ∨ i = 4 ∨ i = 5 ∨ i = 6 ∨ i = 7 ∨ i = 8 ∨ i = 9 ∨ i = 10 ∨ i = 11 by omega) with rfl | rfl | rfl | rfl | rfl | rfl | rfl | rfl | rfl | rfl | rfl | rfl
  · rcases (show j = 0 ∨ j = 1 ∨ j = 2 ∨ j = 3 ∨ j = 4 ∨ j = 5 ∨ j = 6 ∨ j = 7 by omega) with rfl | rfl | rfl | rfl | rfl | rfl | rfl | rfl
    · exact fun z => absurd (hD.1 8 0 _ _ rfl rfl z) (by decide)
    · exact fun z => absurd (hD.1 8 1 _ _ rfl rfl z) (by decide)
    · exact fun z => absurd (hD.1 8 2 _ _ rfl rfl z) (by decide)
    · exact fun z => absurd (hD.1 8 3 _ _ rfl rfl z) (by decide)
    · exact fun z => absurd (hD.1 8 4 _ _ rfl rfl z) (by decide)
    · exact fun z => absurd (hD.1 8 5 _ _ rfl rfl z) (by decide)
    · exact fun z => absurd (hD.1 8 6 _ _ rfl rfl z) (by decide)
    · exact fun z => absurd (hD.1 8 7 _ _ rfl rfl z) (by decide)
  · rcases (show j = 0 ∨ j = 1 ∨ j = 2 ∨ j = 3 ∨ j = 4 ∨ j = 5 ∨ j = 6 ∨ j = 7 by omega) with rfl | rfl | rfl | rfl | rfl | rfl | rfl | rfl
    · exact fun z => absurd (hD.1 9 0 _ _ rfl rfl z) (by decide)
    · exact fun z => absurd (hD.1 9 1 _ _ rfl rfl z) (by decide)
    · exact fun z => absurd (hD.1 9 2 _ _ rfl rfl z) (by decide)
    · exact fun z => absurd (hD.1 9 3 _ _ rfl rfl z) (by decide)
    · exact fun z => absurd (hD.1 9 4 _ _ rfl rfl z) (by decide)
    · exact fun z => absurd (hD.1 9 5 _ _ rfl rfl z) (by decide)
    · exact fun z => absurd (hD.1 9 6 _ _ rfl rfl z) (by decide)
    · exact fun z => absurd (hD.1 9 7 _ _ rfl rfl z) (by decide)
  · rcases (show j = 0 ∨ j = 1 ∨ j = 2 ∨ j = 3 ∨ j = 4 ∨ j = 5 ∨ j = 6 ∨ j = 7 by omega) with rfl | rfl | rfl | rfl | rfl | rfl | rfl | rfl
    · exact fun z => absurd (hD.1 10 0 _ _ rfl rfl z) (by decide)
    · exact fun z => absurd (hD.1 10 1 _ _ rfl rfl z) (by decide)
    · exact fun z => absurd (hD.1 10 2 _ _ rfl rfl z) (by decide)
    · exact fun z => absurd (hD.1 10 3 _ _ rfl rfl z) (by decide)
    · exact fun z => absurd (hD.1 10 4 _ _ rfl rfl z) (by decide)
    · exact fun z => absurd (hD.1 10 5 _ _ rfl rfl z) (by decide)
    · exact fun z => absurd (hD.1 10 6 _ _ rfl rfl z) (by decide)
    · exact fun z => absurd (hD.1 10 7 _ _ rfl rfl z) (by decide)
  · rcases (show j = 0 ∨ j = 1 ∨ j = 2 ∨ j = 3 ∨ j = 4 ∨ j = 5 ∨ j = 6 ∨ j = 7 by omega) with rfl | rfl | rfl | rfl | rfl | rfl | rfl | rfl
    · exact fun z => absurd (hD.1 11 0 _ _ rfl rfl z) (by decide)
    · exact fun z => absurd (hD.1 11 1 _ _ rfl rfl z) (by decide)
    · exact fun z => absurd (hD.1 11 2 _ _ rfl rfl z) (by decide)
    · exact fun z => absurd (hD.1 11 3 _ _ rfl rfl z) (by decide)
    · exact fun z => absurd (hD.1 11 4 _ _ rfl rfl z) (by decide)
    · exact fun z => absurd (hD.1 11 5 _ _ rfl rfl z) (by decide)
    · exact fun z => absurd (hD.1 11 6 _ _ rfl rfl z) (by decide)
    · exact fun z => absurd (hD.1 11 7 _ _ rfl rfl z) (by decide)
  · rcases (show j = 0 ∨ j = 1 ∨ j = 2 ∨ j = 3 ∨ j = 4 ∨ j = 5 ∨ j = 6 ∨ j = 7 by omega) with rfl | rfl | rfl | rfl | rfl | rfl | rfl | rfl
    · exact fun z => absurd (hD.1 12 0 _ _ rfl rfl z) (by decide)
    · exact fun z => absurd (hD.1 12 1 _ _ rfl rfl z) (by decide)
    · exact fun z => absurd (hD.1 12 2 _ _ rfl rfl z) (by decide)
    · exact fun z => absurd (hD.1 12 3 _ _ rfl rfl z) (by decide)
    · exact fun z => absurd (hD.1 12 4 _ _ rfl rfl z) (by decide)
    · exact fun z => absurd (hD.1 12 5 _ _ rfl rfl z) (by decide)
    · exact fun z => absurd (hD.1 12 6 _ _ rfl rfl z) (by decide)
    · exact fun z => absurd (hD.1 12 7 _ _ rfl rfl z) (by decide)
  · rcases (show j = 0 ∨ j = 1 ∨ j = 2 ∨ j = 3 ∨ j = 4 ∨ j = 5 ∨ j = 6 ∨ j = 7 by omega) with rfl | rfl | rfl | rfl | rfl | rfl | rfl | rfl
    · exact fun z => absurd (hD.1 13 0 _ _ rfl rfl z) (by decide)
    · exact fun z => absurd (hD.1 13 1 _ _ rfl rfl z) (by decide)
    · exact fun z => absurd (hD.1 13 2 _ _ rfl rfl z) (by decide)
    · exact fun z => absurd (hD.1 13 3 _ _ rfl rfl z) (by decide)
    · exact fun z => absurd (hD.1 13 4 _ _ rfl rfl z) (by decide)
    · exact fun z => absurd (hD.1 13 5 _ _ rfl rfl z) (by decide)
    · exact fun z => absurd (hD.1 13 6 _ _ rfl rfl z) (by decide)
    · exact fun z => absurd (hD.1 13 7 _ _ rfl rfl z) (by decide)
  · rcases (show j = 0 ∨ j = 1 ∨ j = 2 ∨ j = 3 ∨ j = 4 ∨ j = 5 ∨ j = 6 ∨ j = 7 by omega) with rfl | rfl | rfl | rfl | rfl | rfl | rfl | rfl
    · exact fun z => absurd (hD.1 14 0 _ _ rfl rfl z) (by decide)
    · exact fun z => absurd (hD.1 14 1 _ _ rfl rfl z) (by decide)
    · exact fun z => absurd (hD.1 14 2 _ _ rfl rfl z) (by decide)
    · exact fun z => absurd (hD.1 14 3 _ _ rfl rfl z) (by decide)
    · exact fun z => absurd (hD.1 14 4 _ _ rfl rfl z) (by decide)
    · exact fun z => absurd (hD.1 14 5 _ _ rfl rfl z) (by decide)
    · exact fun z => absurd (hD.1 14 6 _ _ rfl rfl z) (by decide)
    · exact fun z => absurd (hD.1 14 7 _ _ rfl rfl z) (by decide)
  · rcases (show j = 0 ∨ j = 1 ∨ j = 2 ∨ j = 3 ∨ j = 4 ∨ j = 5 ∨ j = 6 ∨ j = 7 by omega) with rfl | rfl | rfl | rfl | rfl | rfl | rfl | rfl
    · exact fun z => absurd (hD.1 15 0 _ _ rfl rfl z) (by decide)
    · exact fun z => absurd (hD.1 15 1 _ _ rfl rfl z) (by decide)
    · exact fun z => absurd (hD.1 15 2 _ _ rfl rfl z) (by decide)
    · exact fun z => absurd (hD.1 15 3 _ _ rfl rfl z) (by decide)
    · exact fun z => absurd (hD.1 15 4 _ _ rfl rfl z) (by decide)
    · exact fun z => absurd (hD.1 15 5 _ _ rfl rfl z) (by decide)
    · exact fun z => absurd (hD.1 15 6 _ _ rfl rfl z) (by decide)
    · exact fun z => absurd (hD.1 15 7 _ _ rfl rfl z) (by decide)
  · rcases (show j = 0 ∨ j = 1 ∨ j = 2 ∨ j = 3 ∨ j = 4 ∨ j = 5 ∨ j = 6 ∨ j = 7 by omega) with rfl | rfl | rfl | rfl | rfl | rfl | rfl | rfl
    · exact fun z => absurd (hD.1 16 0 _ _ rfl rfl z) (by decide)
    · exact fun z => absurd (hD.1 16 1 _ _ rfl rfl z) (by decide)
    · exact fun z => absurd (hD.1 16 2 _ _ rfl rfl z) (by decide)
    · exact fun z => absurd (hD.1 16 3 _ _ rfl rfl z) (by decide)
    · exact fun z => absurd (hD.1 16 4 _ _ rfl rfl z) (by decide)
    · exact fun z => absurd (hD.1 16 5 _ _ rfl rfl z) (by decide)
    · exact fun z => absurd (hD.1 16 6 _ _ rfl rfl z) (by decide)
    · exact fun z => absurd (hD.1 16 7 _ _ rfl rfl z) (by decide)
  · rcases (show j = 0 ∨ j = 1 ∨ j = 2 ∨ j = 3 ∨ j = 4 ∨ j = 5 ∨ j = 6 ∨ j = 7 by omega) with rfl | rfl | rfl | rfl | rfl | rfl | rfl | rfl
    · exact fun z => absurd (hD.1 17 0 _ _ rfl rfl z) (by decide)
    · exact fun z => absurd (hD.1 17 1 _ _ rfl rfl z) (by decide)
    · exact fun z => absurd (hD.1 17 2 _ _ rfl rfl z) (by decide)
    · exact fun z => absurd (hD.1 17 3 _ _ rfl rfl z) (by decide)
    · exact fun z => absurd (hD.1 17 4 _ _ rfl rfl z) (by decide)
    · exact fun z => absurd (hD.1 17 5 _ _ rfl rfl z) (by decide)
    · exact fun z => absurd (hD.1 17 6 _ _ rfl rfl z) (by decide)
    · exact fun z => absurd (hD.1 17 7 _ _ rfl rfl z) (by decide)
  · rcases (show j = 0 ∨ j = 1 ∨ j = 2 ∨ j = 3 ∨ j = 4 ∨ j = 5 ∨ j = 6 ∨ j = 7 by omega) with rfl | rfl | rfl | rfl | rfl | rfl | rfl | rfl
    · exact fun z => absurd (hD.1 18 0 _ _ rfl rfl z) (by decide)
    · exact fun z => absurd (hD.1 18 1 _ _ rfl rfl z) (by decide)
    · exact fun z => absurd (hD.1 18 2 _ _ rfl rfl z) (by decide)
    · exact fun z => absurd (hD.1 18 3 _ _ rfl rfl z) (by decide)
    · exact fun z => absurd (hD.1 18 4 _ _ rfl rfl z) (by decide)
    · exact fun z => absurd (hD.1 18 5 _ _ rfl rfl z) (by decide)
    · exact fun z => absurd (hD.1 18 6 _ _ rfl rfl z) (by decide)
    · exact fun z => absurd (hD.1 18 7 _ _ rfl rfl z) (by decide)
  · rcases (show j = 0 ∨ j = 1 ∨ j = 2 ∨ j = 3 ∨ j = 4 ∨ j = 5 ∨ j = 6 ∨ j = 7 by omega) with rfl | rfl | rfl | rfl | rfl | rfl | rfl | rfl
    · exact fun z => absurd (hD.1 19 0 _ _ rfl rfl z) (by decide)
    · exact fun z => absurd (hD.1 19 1 _ _ rfl rfl z) (by decide)
    · exact fun z => absurd (hD.1 19 2 _ _ rfl rfl z) (by decide)
    · exact fun z => absurd (hD.1 19 3 _ _ rfl rfl z) (by decide)
    · exact fun z => absurd (hD.1 19 4 _ _ rfl rfl z) (by decide)
    · exact fun z => absurd (hD.1 19 5 _ _ rfl rfl z) (by decide)
    · exact fun z => absurd (hD.1 19 6 _ _ rfl rfl z) (by decide)
    · exact fun z => absurd (hD.1 19 7 _ _ rfl rfl z) (by decide)
theorem zz_dj0 {A : Nat → Prop} {a : Nat → Nat} (hD : va_D A [(a 2, .inr (4, [.int 0, .int 0, .int 0, .int 0, .int 0, .int 0, .int 0, .int 0, .int 0])), (a 3, .inr (4, [.int 0, .int 0, .int 0, .int 0, .int 0, .int 0, .int 0, .int 0, .int 0])), (a 4, .inr (4, [.int 0, .int 0, .int 0, .int 0, .int 0, .int 0, .int 0, .int 0, .int 0])), (a 5, .inr (4, [.int 0, .int 0, .int 0, .int 0, .int 0, .int 0, .int 0, .int 0, .int 0])), (a 6, .inr (4, [.int 0, .int 0, .int 0, .int 0, .int 0, .int 0, .int 0, .int 0, .int 0])), (a 7, .inr (4, [.int 0, .int 0, .int 0, .int 0, .int 0, .int 0, .int 0, .int 0, .int 0])), (a 8, .inr (4, [.int 0, .int 0, .int 0, .int 0, .int 0, .int 0, .int 0, .int 0, .int 0])), (a 9, .inr (4, [.int 0, .int 0, .int 0, .int 0, .int 0, .int 0, .int 0, .int 0, .int 0])), (a 11, .inr (3, [.int 0, .int 0, .int 0, .int 0, .int 0, .int (-1), .int (-1)])), (a 12, .inr (3, [.int 0, .int 0, .int 0, .int 0, .int 0, .int (-1), .int (-1)])), (a 13, .inr (3, [.int 0, .int 0, .int 0, .int 0, .int 0, .int (-1), .int (-1)])), (a 14, .inr (3, [.int 0, .int 0, .int 0, .int 0, .int 0, .int (-1), .int (-1)])), (a 15, .inr (3, [.int 0, .int 0, .int 0, .int 0, .int 0, .int (-1), .int (-1)])), (a 16, .inr (3, [.int 0, .int 0, .int 0, .int 0, .int 0, .int (-1), .int (-1)])), (a 17, .inr (3, [.int 0, .int 0, .int 0, .int 0, .int 0, .int (-1), .int (-1)])), (a 18, .inr (3, [.int 0, .int 0, .int 0, .int 0, .int 0, .int (-1), .int (-1)])), (a 19, .inr (3, [.int 0, .int 0, .int 0, .int 0, .int 0, .int (-1), .int (-1)])), (a 20, .inr (3, [.int 0, .int 0, .int 0, .int 0, .int 0, .int (-1), .int (-1)])), (a 21, .inr (3, [.int 0, .int 0, .int 0, .int 0, .int 0, .int (-1), .int (-1)])), (a 22, .inr (3, [.int 0, .int 0, .int 0, .int 0, .int 0, .int (-1), .int (-1)]))]) : zz_dj a := by
  refine ⟨?_, ?_, fun i j hi hj z => zz_dis hD j hj i hi z.symm⟩
  · intro i j hi hj hij
    rcases (show i = 0 ∨ i = 1 ∨ i = 2 ∨ i = 3 ∨ i = 4 ∨ i = 5 ∨ i = 6 ∨ i = 7 by omega) with rfl | rfl | rfl | rfl | rfl | rfl | rfl | rfl
    · rcases (show j = 0 ∨ j = 1 ∨ j = 2 ∨ j = 3 ∨ j = 4 ∨ j = 5 ∨ j = 6 ∨ j = 7 by omega) with rfl | rfl | rfl | rfl | rfl | rfl | rfl | rfl
      · exact absurd rfl hij
      · exact fun z => absurd (hD.1 0 1 _ _ rfl rfl z) (by decide)
      · exact fun z => absurd (hD.1 0 2 _ _ rfl rfl z) (by decide)
      · exact fun z => absurd (hD.1 0 3 _ _ rfl rfl z) (by decide)
      · exact fun z => absurd (hD.1 0 4 _ _ rfl rfl z) (by decide)
      · exact fun z => absurd (hD.1 0 5 _ _ rfl rfl z) (by decide)
      · exact fun z => absurd (hD.1 0 6 _ _ rfl rfl z) (by decide)
      · exact fun z => absurd (hD.1 0 7 _ _ rfl rfl z) (by decide)
    · rcases (show j = 0 ∨ j = 1 ∨ j = 2 ∨ j = 3 ∨ j = 4 ∨ j = 5 ∨ j = 6 ∨ j = 7 by omega) with rfl | rfl | rfl | rfl | rfl | rfl | rfl | rfl
      · exact fun z => absurd (hD.1 1 0 _ _ rfl rfl z) (by decide)
      · exact absurd rfl hij
      · exact fun z => absurd (hD.1 1 2 _ _ rfl rfl z) (by decide)
      · exact fun z => absurd (hD.1 1 3 _ _ rfl rfl z) (by decide)
      · exact fun z => absurd (hD.1 1 4 _ _ rfl rfl z) (by decide)
      · exact fun z => absurd (hD.1 1 5 _ _ rfl rfl z) (by decide)
      · exact fun z => absurd (hD.1 1 6 _ _ rfl rfl z) (by decide)
      · exact fun z => absurd (hD.1 1 7 _ _ rfl rfl z) (by decide)
    · rcases (show j = 0 ∨ j = 1 ∨ j = 2 ∨ j = 3 ∨ j = 4 ∨ j = 5 ∨ j = 6 ∨ j = 7 by omega) with rfl | rfl | rfl | rfl | rfl | rfl | rfl | rfl
      · exact fun z => absurd (hD.1 2 0 _ _ rfl rfl z) (by decide)
      · exact fun z => absurd (hD.1 2 1 _ _ rfl rfl z) (by decide)
      · exact absurd rfl hij
      · exact fun z => absurd (hD.1 2 3 _ _ rfl rfl z) (by decide)
      · exact fun z => absurd (hD.1 2 4 _ _ rfl rfl z) (by decide)
      · exact fun z => absurd (hD.1 2 5 _ _ rfl rfl z) (by decide)
      · exact fun z => absurd (hD.1 2 6 _ _ rfl rfl z) (by decide)
      · exact fun z => absurd (hD.1 2 7 _ _ rfl rfl z) (by decide)
    · rcases (show j = 0 ∨ j = 1 ∨ j = 2 ∨ j = 3 ∨ j = 4 ∨ j = 5 ∨ j = 6 ∨ j = 7 by omega) with rfl | rfl | rfl | rfl | rfl | rfl | rfl | rfl
      · exact fun z => absurd (hD.1 3 0 _ _ rfl rfl z) (by decide)
      · exact fun z => absurd (hD.1 3 1 _ _ rfl rfl z) (by decide)
      · exact fun z => absurd (hD.1 3 2 _ _ rfl rfl z) (by decide)
      · exact absurd rfl hij
      · exact fun z => absurd (hD.1 3 4 _ _ rfl rfl z) (by decide)
      · exact fun z => absurd (hD.1 3 5 _ _ rfl rfl z) (by decide)
      · exact fun z => absurd (hD.1 3 6 _ _ rfl rfl z) (by decide)
      · exact fun z => absurd (hD.1 3 7 _ _ rfl rfl z) (by decide)
    · rcases (show j = 0 ∨ j = 1 ∨ j = 2 ∨ j = 3 ∨ j = 4 ∨ j = 5 ∨ j = 6 ∨ j = 7 by omega) with rfl | rfl | rfl | rfl | rfl | rfl | rfl | rfl
      · exact fun z => absurd (hD.1 4 0 _ _ rfl rfl z) (by decide)
      · exact fun z => absurd (hD.1 4 1 _ _ rfl rfl z) (by decide)
      · exact fun z => absurd (hD.1 4 2 _ _ rfl rfl z) (by decide)
      · exact fun z => absurd (hD.1 4 3 _ _ rfl rfl z) (by decide)
      · exact absurd rfl hij
      · exact fun z => absurd (hD.1 4 5 _ _ rfl rfl z) (by decide)
      · exact fun z => absurd (hD.1 4 6 _ _ rfl rfl z) (by decide)
      · exact fun z => absurd (hD.1 4 7 _ _ rfl rfl z) (by decide)
    · rcases (show j = 0 ∨ j = 1 ∨ j = 2 ∨ j = 3 ∨ j = 4 ∨ j = 5 ∨ j = 6 ∨ j = 7 by omega) with rfl | rfl | rfl | rfl | rfl | rfl | rfl | rfl
      · exact fun z => absurd (hD.1 5 0 _ _ rfl rfl z) (by decide)
      · exact fun z => absurd (hD.1 5 1 _ _ rfl rfl z) (by decide)
      · exact fun z => absurd (hD.1 5 2 _ _ rfl rfl z) (by decide)
      · exact fun z => absurd (hD.1 5 3 _ _ rfl rfl z) (by decide)
      · exact fun z => absurd (hD.1 5 4 _ _ rfl rfl z) (by decide)
      · exact absurd rfl hij
      · exact fun z => absurd (hD.1 5 6 _ _ rfl rfl z) (by decide)
      · exact fun z => absurd (hD.1 5 7 _ _ rfl rfl z) (by decide)
    · rcases (show j = 0 ∨ j = 1 ∨ j = 2 ∨ j = 3 ∨ j = 4 ∨ j = 5 ∨ j = 6 ∨ j = 7 by omega) with rfl | rfl | rfl | rfl | rfl | rfl | rfl | rfl
      · exact fun z => absurd (hD.1 6 0 _ _ rfl rfl z) (by decide)
      · exact fun z => absurd (hD.1 6 1 _ _ rfl rfl z) (by decide)
      · exact fun z => absurd (hD.1 6 2 _ _ rfl rfl z) (by decide)
      · exact fun z => absurd (hD.1 6 3 _ _ rfl rfl z) (by decide)
      · exact fun z => absurd (hD.1 6 4 _ _ rfl rfl z) (by decide)
      · exact fun z => absurd (hD.1 6 5 _ _ rfl rfl z) (by decide)
      · exact absurd rfl hij
      · exact fun z => absurd (hD.1 6 7 _ _ rfl rfl z) (by decide)
    · rcases (show j = 0 ∨ j = 1 ∨ j = 2 ∨ j = 3 ∨ j = 4 ∨ j = 5 ∨ j = 6 ∨ j = 7 by omega) with rfl | rfl | rfl | rfl | rfl | rfl | rfl | rfl
      · exact fun z => absurd (hD.1 7 0 _ _ rfl rfl z) (by decide)
      · exact fun z => absurd (hD.1 7 1 _ _ rfl rfl z) (by decide)
      · exact fun z => absurd (hD.1 7 2 _ _ rfl rfl z) (by decide)
      · exact fun z => absurd (hD.1 7 3 _ _ rfl rfl z) (by decide)
      · exact fun z => absurd (hD.1 7 4 _ _ rfl rfl z) (by decide)
      · exact fun z => absurd (hD.1 7 5 _ _ rfl rfl z) (by decide)
      · exact fun z => absurd (hD.1 7 6 _ _ rfl rfl z) (by decide)
      · exact absurd rfl hij
  · intro i j hi hj hij
    rcases (show i = 0 ∨ i = 1 ∨ i = 2 ∨ i = 3 ∨ i = 4 ∨ i = 5 ∨ i = 6 ∨ i = 7 ∨ i = 8 ∨ i = 9 ∨ i = 10 ∨ i = 11 by omega) with rfl | rfl | rfl | rfl | rfl | rfl | rfl | rfl | rfl | rfl | rfl | rfl
    · rcases (show j = 0 ∨ j = 1 ∨ j = 2 ∨ j = 3 ∨ j = 4 ∨ j = 5 ∨ j = 6 ∨ j = 7 ∨ j = 8 ∨ j = 9 ∨ j = 10 ∨ j = 11 by omega) with rfl | rfl | rfl | rfl | rfl | rfl | rfl | rfl | rfl | rfl | rfl | rfl
      · exact absurd rfl hij
      · exact fun z => absurd (hD.1 8 9 _ _ rfl rfl z) (by decide)
      · exact fun z => absurd (hD.1 8 10 _ _ rfl rfl z) (by decide)
      · exact fun z => absurd (hD.1 8 11 _ _ rfl rfl z) (by decide)
      · exact fun z => absurd (hD.1 8 12 _ _ rfl rfl z) (by decide)
      · exact fun z => absurd (hD.1 8 13 _ _ rfl rfl z) (by decide)
      · exact fun z => absurd (hD.1 8 14 _ _ rfl rfl z) (by decide)
      · exact fun z => absurd (hD.1 8 15 _ _ rfl rfl z) (by decide)
      · exact fun z => absurd (hD.1 8 16 _ _ rfl rfl z) (by decide)
      · exact fun z => absurd (hD.1 8 17 _ _ rfl rfl z) (by decide)
      · exact fun z => absurd (hD.1 8 18 _ _ rfl rfl z) (by decide)
      · exact fun z => absurd (hD.1 8 19 _ _ rfl rfl z) (by decide)
    · rcases (show j = 0 ∨ j = 1 ∨ j = 2 ∨ j = 3 ∨ j = 4 ∨ j = 5 ∨ j = 6 ∨ j = 7 ∨ j = 8 ∨ j = 9 ∨ j = 10 ∨ j = 11 by omega) with rfl | rfl | rfl | rfl | rfl | rfl | rfl | rfl | rfl | rfl | rfl | rfl
      · exact fun z => absurd (hD.1 9 8 _ _ rfl rfl z) (by decide)
      · exact absurd rfl hij
      · exact fun z => absurd (hD.1 9 10 _ _ rfl rfl z) (by decide)
      · exact fun z => absurd (hD.1 9 11 _ _ rfl rfl z) (by decide)
      · exact fun z => absurd (hD.1 9 12 _ _ rfl rfl z) (by decide)
      · exact fun z => absurd (hD.1 9 13 _ _ rfl rfl z) (by decide)
      · exact fun z => absurd (hD.1 9 14 _ _ rfl rfl z) (by decide)
      · exact fun z => absurd (hD.1 9 15 _ _ rfl rfl z) (by decide)
      · exact fun z => absurd (hD.1 9 16 _ _ rfl rfl z) (by decide)
      · exact fun z => absurd (hD.1 9 17 _ _ rfl rfl z) (by decide)
      · exact fun z => absurd (hD.1 9 18 _ _ rfl rfl z) (by decide)
      · exact fun z => absurd (hD.1 9 19 _ _ rfl rfl z) (by decide)
    · rcases (show j = 0 ∨ j = 1 ∨ j = 2 ∨ j = 3 ∨ j = 4 ∨ j = 5 ∨ j = 6 ∨ j = 7 ∨ j = 8 ∨ j = 9 ∨ j = 10 ∨ j = 11 by omega) with rfl | rfl | rfl | rfl | rfl | rfl | rfl | rfl | rfl | rfl | rfl | rfl
      · exact fun z => absurd (hD.1 10 8 _ _ rfl rfl z) (by decide)
      · exact fun z => absurd (hD.1 10 9 _ _ rfl rfl z) (by decide)
      · exact absurd rfl hij
      · exact fun z => absurd (hD.1 10 11 _ _ rfl rfl z) (by decide)
      · exact fun z => absurd (hD.1 10 12 _ _ rfl rfl z) (by decide)
      · exact fun z => absurd (hD.1 10 13 _ _ rfl rfl z) (by decide)
      · exact fun z => absurd (hD.1 10 14 _ _ rfl rfl z) (by decide)
      · exact fun z => absurd (hD.1 10 15 _ _ rfl rfl z) (by decide)
      · exact fun z => absurd (hD.1 10 16 _ _ rfl rfl z) (by decide)
      · exact fun z => absurd (hD.1 10 17 _ _ rfl rfl z) (by decide)
      · exact fun z => absurd (hD.1 10 18 _ _ rfl rfl z) (by decide)
      · exact fun z => absurd (hD.1 10 19 _ _ rfl rfl z) (by decide)
    · rcases (show j = 0 ∨ j = 1 ∨ j = 2 ∨ j = 3 ∨ j = 4 ∨ j = 5 ∨ j = 6 ∨ j = 7 ∨ j = 8 ∨ j = 9 ∨ j = 10 ∨ j = 11 by omega) with rfl | rfl | rfl | rfl | rfl | rfl | rfl | rfl | rfl | rfl | rfl | rfl
      · exact fun z => absurd (hD.1 11 8 _ _ rfl rfl z) (by decide)
      · exact fun z => absurd (hD.1 11 9 _ _ rfl rfl z) (by decide)
      · exact fun z => absurd (hD.1 11 10 _ _ rfl rfl z) (by decide)
      · exact absurd rfl hij
      · exact fun z => absurd (hD.1 11 12 _ _ rfl rfl z) (by decide)
      · exact fun z => absurd (hD.1 11 13 _ _ rfl rfl z) (by decide)
      · exact fun z => absurd (hD.1 11 14 _ _ rfl rfl z) (by decide)
      · exact fun z => absurd (hD.1 11 15 _ _ rfl rfl z) (by decide)
      · exact fun z => absurd (hD.1 11 16 _ _ rfl rfl z) (by decide)
      · exact fun z => absurd (hD.1 11 17 _ _ rfl rfl z) (by decide)
      · exact fun z => absurd (hD.1 11 18 _ _ rfl rfl z) (by decide)
      · exact fun z => absurd (hD.1 11 19 _ _ rfl rfl z) (by decide)
    · rcases (show j = 0 ∨ j = 1 ∨ j = 2 ∨ j = 3 ∨ j = 4 ∨ j = 5 ∨ j = 6 ∨ j = 7 ∨ j = 8 ∨ j = 9 ∨ j = 10 ∨ j = 11 by omega) with rfl | rfl | rfl | rfl | rfl | rfl | rfl | rfl | rfl | rfl | rfl | rfl
      · exact fun z => absurd (hD.1 12 8 _ _ rfl rfl z) (by decide)
      · exact fun z => absurd (hD.1 12 9 _ _ rfl rfl z) (by decide)
      · exact fun z => absurd (hD.1 12 10 _ _ rfl rfl z) (by decide)
      · exact fun z => absurd (hD.1 12 11 _ _ rfl rfl z) (by decide)
      · exact absurd rfl hij
      · exact fun z => absurd (hD.1 12 13 _ _ rfl rfl z) (by decide)
      · exact fun z => absurd (hD.1 12 14 _ _ rfl rfl z) (by decide)
      · exact fun z => absurd (hD.1 12 15 _ _ rfl rfl z) (by decide)
      · exact fun z => absurd (hD.1 12 16 _ _ rfl rfl z) (by decide)
      · exact fun z => absurd (hD.1 12 17 _ _ rfl rfl z) (by decide)
      · exact fun z => absurd (hD.1 12 18 _ _ rfl rfl z) (by decide)
      · exact fun z => absurd (hD.1 12 19 _ _ rfl rfl z) (by decide)
    · rcases (show j = 0 ∨ j = 1 ∨ j = 2 ∨ j = 3 ∨ j = 4 ∨ j = 5 ∨ j = 6 ∨ j = 7 ∨ j = 8 ∨ j = 9 ∨ j = 10 ∨ j = 11 by omega) with rfl | rfl | rfl | rfl | rfl | rfl | rfl | rfl | rfl | rfl | rfl | rfl
      · exact fun z => absurd (hD.1 13 8 _ _ rfl rfl z) (by decide)
      · exact fun z => absurd (hD.1 13 9 _ _ rfl rfl z) (by decide)
      · exact fun z => absurd (hD.1 13 10 _ _ rfl rfl z) (by decide)
      · exact fun z => absurd (hD.1 13 11 _ _ rfl rfl z) (by decide)
      · exact fun z => absurd (hD.1 13 12 _ _ rfl rfl z) (by decide)
      · exact absurd rfl hij
      · exact fun z => absurd (hD.1 13 14 _ _ rfl rfl z) (by decide)
      · exact fun z => absurd (hD.1 13 15 _ _ rfl rfl z) (by decide)
      · exact fun z => absurd (hD.1 13 16 _ _ rfl rfl z) (by decide)
      · exact fun z => absurd (hD.1 13 17 _ _ rfl rfl z) (by decide)
      · exact fun z => absurd (hD.1 13 18 _ _ rfl rfl z) (by decide)
      · exact fun z => absurd (hD.1 13 19 _ _ rfl rfl z) (by decide)
    · rcases (show j = 0 ∨ j = 1 ∨ j = 2 ∨ j = 3 ∨ j = 4 ∨ j = 5 ∨ j = 6 ∨ j = 7 ∨ j = 8 ∨ j = 9 ∨ j = 10 ∨ j = 11 by omega) with rfl | rfl | rfl | rfl | rfl | rfl | rfl | rfl | rfl | rfl | rfl | rfl
      · exact fun z => absurd (hD.1 14 8 _ _ rfl rfl z) (by decide)
      · exact fun z => absurd (hD.1 14 9 _ _ rfl rfl z) (by decide)
      · exact fun z => absurd (hD.1 14 10 _ _ rfl rfl z) (by decide)
      · exact fun z => absurd (hD.1 14 11 _ _ rfl rfl z) (by decide)
      · exact fun z => absurd (hD.1 14 12 _ _ rfl rfl z) (by decide)
      · exact fun z => absurd (hD.1 14 13 _ _ rfl rfl z) (by decide)
      · exact absurd rfl hij
      · exact fun z => absurd (hD.1 14 15 _ _ rfl rfl z) (by decide)
      · exact fun z => absurd (hD.1 14 16 _ _ rfl rfl z) (by decide)
      · exact fun z => absurd (hD.1 14 17 _ _ rfl rfl z) (by decide)
      · exact fun z => absurd (hD.1 14 18 _ _ rfl rfl z) (by decide)
      · exact fun z => absurd (hD.1 14 19 _ _ rfl rfl z) (by decide)
    · rcases (show j = 0 ∨ j = 1 ∨ j = 2 ∨ j = 3 ∨ j = 4 ∨ j = 5 ∨ j = 6 ∨ j = 7 ∨ j = 8 ∨ j = 9 ∨ j = 10 ∨ j = 11 by omega) with rfl | rfl | rfl | rfl | rfl | rfl | rfl | rfl | rfl | rfl | rfl | rfl
      · exact fun z => absurd (hD.1 15 8 _ _ rfl rfl z) (by decide)
      · exact fun z => absurd (hD.1 15 9 _ _ rfl rfl z) (by decide)
      · exact fun z => absurd (hD.1 15 10 _ _ rfl rfl z) (by decide)
      · exact fun z => absurd (hD.1 15 11 _ _ rfl rfl z) (by decide)
      · exact fun z => absurd (hD.1 15 12 _ _ rfl rfl z) (by decide)
      · exact fun z => absurd (hD.1 15 13 _ _ rfl rfl z) (by decide)
      · exact fun z => absurd (hD.1 15 14 _ _ rfl rfl z) (by decide)
      · exact absurd rfl hij
      · exact fun z => absurd (hD.1 15 16 _ _ rfl rfl z) (by decide)
      · exact fun z => absurd (hD.1 15 17 _ _ rfl rfl z) (by decide)
      · exact fun z => absurd (hD.1 15 18 _ _ rfl rfl z) (by decide)
      · exact fun z => absurd (hD.1 15 19 _ _ rfl rfl z) (by decide)
    · rcases (show j = 0 ∨ j = 1 ∨ j = 2 ∨ j = 3 ∨ j = 4 ∨ j = 5 ∨ j = 6 ∨ j = 7 ∨ j = 8 ∨ j = 9 ∨ j = 10 ∨ j = 11 by omega) with rfl | rfl | rfl | rfl | rfl | rfl | rfl | rfl | rfl | rfl | rfl | rfl
      · exact fun z => absurd (hD.1 16 8 _ _ rfl rfl z) (by decide)
      · exact fun z => absurd (hD.1 16 9 _ _ rfl rfl z) (by decide)
      · exact fun z => absurd (hD.1 16 10 _ _ rfl rfl z) (by decide)
      · exact fun z => absurd (hD.1 16 11 _ _ rfl rfl z) (by decide)
      · exact fun z => absurd (hD.1 16 12 _ _ rfl rfl z) (by decide)
      · exact fun z => absurd (hD.1 16 13 _ _ rfl rfl z) (by decide)
      · exact fun z => absurd (hD.1 16 14 _ _ rfl rfl z) (by decide)
      · exact fun z => absurd (hD.1 16 15 _ _ rfl rfl z) (by decide)
      · exact absurd rfl hij
      · exact fun z => absurd (hD.1 16 17 _ _ rfl rfl z) (by decide)
      · exact fun z => absurd (hD.1 16 18 _ _ rfl rfl z) (by decide)
      · exact fun z => absurd (hD.1 16 19 _ _ rfl rfl z) (by decide)
    · rcases (show j = 0 ∨ j = 1 ∨ j = 2 ∨ j = 3 ∨ j = 4 ∨ j = 5 ∨ j = 6 ∨ j = 7 ∨ j = 8 ∨ j = 9 ∨ j = 10 ∨ j = 11 by omega) with rfl | rfl | rfl | rfl | rfl | rfl | rfl | rfl | rfl | rfl | rfl | rfl
      · exact fun z => absurd (hD.1 17 8 _ _ rfl rfl z) (by decide)
      · exact fun z => absurd (hD.1 17 9 _ _ rfl rfl z) (by decide)
      · exact fun z => absurd (hD.1 17 10 _ _ rfl rfl z) (by decide)
      · exact fun z => absurd (hD.1 17 11 _ _ rfl rfl z) (by decide)
      · exact fun z => absurd (hD.1 17 12 _ _ rfl rfl z) (by decide)
      · exact fun z => absurd (hD.1 17 13 _ _ rfl rfl z) (by decide)
      · exact fun z => absurd (hD.1 17 14 _ _ rfl rfl z) (by decide)
      · exact fun z => absurd (hD.1 17 15 _ _ rfl rfl z) (by decide)
      · exact fun z => absurd (hD.1 17 16 _ _ rfl rfl z) (by decide)
      · exact absurd rfl hij
      · exact fun z => absurd (hD.1 17 18 _ _ rfl rfl z) (by decide)
      · exact fun z => absurd (hD.1 17 19 _ _ rfl rfl z) (by decide)
    · rcases (show j = 0 ∨ j = 1 ∨ j = 2 ∨ j = 3 ∨ j = 4 ∨ j = 5 ∨ j = 6 ∨ j = 7 ∨ j = 8 ∨ j = 9 ∨ j = 10 ∨ j = 11 by omega) with rfl | rfl | rfl | rfl | rfl | rfl | rfl | rfl | rfl | rfl | rfl | rfl
      · exact fun z => absurd (hD.1 18 8 _ _ rfl rfl z) (by decide)
      · exact fun z => absurd (hD.1 18 9 _ _ rfl rfl z) (by decide)
      · exact fun z => absurd (hD.1 18 10 _ _ rfl rfl z) (by decide)
      · exact fun z => absurd (hD.1 18 11 _ _ rfl rfl z) (by decide)
      · exact fun z => absurd (hD.1 18 12 _ _ rfl rfl z) (by decide)
      · exact fun z => absurd (hD.1 18 13 _ _ rfl rfl z) (by decide)
      · exact fun z => absurd (hD.1 18 14 _ _ rfl rfl z) (by decide)
      · exact fun z => absurd (hD.1 18 15 _ _ rfl rfl z) (by decide)
      · exact fun z => absurd (hD.1 18 16 _ _ rfl rfl z) (by decide)
      · exact fun z => absurd (hD.1 18 17 _ _ rfl rfl z) (by decide)
      · exact absurd rfl hij
      · exact fun z => absurd (hD.1 18 19 _ _ rfl rfl z) (by decide)
    · rcases (show j = 0 ∨ j = 1 ∨ j = 2 ∨ j = 3 ∨ j = 4 ∨ j = 5 ∨ j = 6 ∨ j = 7 ∨ j = 8 ∨ j = 9 ∨ j = 10 ∨ j = 11 by omega) with rfl | rfl | rfl | rfl | rfl | rfl | rfl | rfl | rfl | rfl | rfl | rfl
      · exact fun z => absurd (hD.1 19 8 _ _ rfl rfl z) (by decide)
      · exact fun z => absurd (hD.1 19 9 _ _ rfl rfl z) (by decide)
      · exact fun z => absurd (hD.1 19 10 _ _ rfl rfl z) (by decide)
      · exact fun z => absurd (hD.1 19 11 _ _ rfl rfl z) (by decide)
      · exact fun z => absurd (hD.1 19 12 _ _ rfl rfl z) (by decide)
      · exact fun z => absurd (hD.1 19 13 _ _ rfl rfl z) (by decide)
      · exact fun z => absurd (hD.1 19 14 _ _ rfl rfl z) (by decide)
      · exact fun z => absurd (hD.1 19 15 _ _ rfl rfl z) (by decide)
      · exact fun z => absurd (hD.1 19 16 _ _ rfl rfl z) (by decide)
      · exact fun z => absurd (hD.1 19 17 _ _ rfl rfl z) (by decide)
      · exact fun z => absurd (hD.1 19 18 _ _ rfl rfl z) (by decide)
      · exact absurd rfl hij
theorem zz_RV0 {a : Nat → Nat} (hd : ∀ i : Nat, i < 12 → ∀ j : Nat, j < 8 → ¬ a (11 + i) = a (2 + j)) : zz_RV a (zz_V0 a) (fun _ => (0 : Int32)) (fun _ => (0 : Int32)) (fun _ => (0 : Int32)) (fun _ => (0 : Int32)) (fun _ => (0 : Int32)) (fun _ => (0 : Int32)) (fun _ => (0 : Int32)) (fun _ => (0 : Int32)) (zz_prn (fun _ => (0 : Int32)) (fun _ => (0 : Int32)) (fun _ => (0 : Int32)) 0) (fun _ => (0 : Int32)) (fun _ => (0 : Int32)) (fun _ => (0 : Int32)) (fun _ => (0 : Int32)) (fun _ => (0 : Int32)) (zz_dfn (fun _ => (0 : Int32)) 0) (zz_pfn (fun _ => (0 : Int32)) (fun _ => (0 : Int32)) 0) := by
  refine ⟨fun i hi => ?_, fun i hi => ?_⟩
  · have e := zz_K04 (a := a) hi
    exact ⟨zz_V04 e, zz_V04 e, zz_V04 e, zz_V04 e, zz_V04 e, zz_V04 e, zz_V04 e, zz_V04 e, zz_V04 e⟩
  · have e := zz_K03 (hd i hi)
    exact ⟨zz_V03 e (by decide), zz_V03 e (by decide), zz_V03 e (by decide), zz_V03 e (by decide), zz_V03 e (by decide), (zz_V03n e (by decide)).trans (if_neg (Nat.not_lt_zero _)).symm, (zz_V03n e (by decide)).trans (if_neg (Nat.not_lt_zero _)).symm⟩
