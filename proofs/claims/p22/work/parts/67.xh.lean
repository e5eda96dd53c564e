theorem zz_qr_0 {cu : Int32} {dr : Nat → Int32} (h : ∀ w : Nat, w < 7 → dr w = zz_un w) : zz_qr ((1, 0, (fun _ => false), 0, zz_un) : zz_Q) 1 (-1) 0 0 dr := by
  refine ⟨rfl, Or.inl rfl, fun z => absurd (show (1 : Nat) = 2 from z) (by decide), fun w hw => ?_, rfl, h⟩
  constructor
  · intro _ z; exact absurd (show false = true from z) (by decide)
  · intro _
    rcases (show w = 0 ∨ w = 1 ∨ w = 2 ∨ w = 3 ∨ w = 4 ∨ w = 5 ∨ w = 6 by omega) with rfl | rfl | rfl | rfl | rfl | rfl | rfl <;> decide
/-- where the class's reading stands -/
def zz_ri (cs : Nat → Int32) (n k : Nat) (F : Nat × Int32 × zz_Q) (d0 d1 d2 d3 d4 d5 : Int32) (dr : Nat → Int32) : Prop := (d0 = 0 ∧ d1 = -1 ∧ ∃ q : zz_Q, zz_qr q d2 d3 d4 d5 dr ∧ zz_R cs n k q = F) ∨ (¬ d0 = 0 ∧ d0 = nI F.1 ∧ d1 = F.2.1)
theorem zz_nI0 {x : Nat} (h : x < 2147483648) (z : nI x = 0) : x = 0 := zz_nI_inj h (by decide) z
theorem zz_tk_b {cs : Nat → Int32} {n k : Nat} {q : zz_Q} : (zz_tk cs n k q).1 ≤ 3 := by
  unfold zz_tk
  split
  · split
    · split
      · exact Nat.le_of_ble_eq_true rfl
      · split <;> exact Nat.le_of_ble_eq_true rfl
    · split
      · split <;> exact Nat.le_of_ble_eq_true rfl
      · exact Nat.le_of_ble_eq_true rfl
  · exact Nat.le_of_ble_eq_true rfl
theorem zz_ri_step {cs : Nat → Int32} {n k : Nat} {F : Nat × Int32 × zz_Q} {q : zz_Q} {r d0 d1 n0 n1 d2 d3 d4 d5 : Int32} {dr : Nat → Int32} (hk : k < n) (hb : zz_bt cs k) (hF : zz_R cs n k q = F) (e0 : d0 = 0) (e1 : d1 = -1) (er : r = nI (zz_tk cs n k q).1) (eq : r = 0 → zz_qr (zz_tk cs n k q).2 d2 d3 d4 d5 dr) (en : (r = 0 ∧ n0 = d0 ∧ n1 = d1) ∨ (¬ r = 0 ∧ n0 = r ∧ n1 = nI k)) : zz_ri cs n (k + 1) F n0 n1 d2 d3 d4 d5 dr := by
  rcases en with ⟨a, b, c⟩ | ⟨a, b, c⟩
  · have z : (zz_tk cs n k q).1 = 0 := zz_nI0 (by have := zz_tk_b (cs := cs) (n := n) (k := k) (q := q); omega) (er.symm.trans a)
    exact Or.inl ⟨b.trans e0, c.trans e1, _, eq a, (zz_R_ok hk hb z).symm.trans hF⟩
  · have z : ¬ (zz_tk cs n k q).1 = 0 := fun z => a (by rw [er, z]; rfl)
    rw [zz_R_bad hk hb z] at hF
    refine Or.inr ⟨by rw [b]; exact a, ?_, ?_⟩
    · rw [b, er, ← hF]
    · rw [c, ← hF]
/-- what a reading leaves -/
def zz_rp (F : Nat × Int32 × zz_Q) (r d0 d1 : Int32) (ft f2 : Nat → Int32) : Prop := d0 = nI F.1 ∧ d1 = F.2.1 ∧ (F.1 = 0 → r = nI F.2.2.2.2.2.1 ∧ ∀ w : Nat, w < 7 → f2 w = F.2.2.2.2.2.2 w) ∧ (¬ F.1 = 0 → r = -1 ∧ f2 = ft)
theorem zz_rp_bad {F : Nat × Int32 × zz_Q} {d0 d1 : Int32} {ft : Nat → Int32} (h : ¬ d0 = 0) (h0 : d0 = nI F.1) (h1 : d1 = F.2.1) : zz_rp F (-1) d0 d1 ft ft := ⟨h0, h1, fun z => absurd (by rw [h0, z]; rfl) h, fun _ => ⟨rfl, rfl⟩⟩
theorem zz_rp_end {cs : Nat → Int32} {n : Nat} {F : Nat × Int32 × zz_Q} {q : zz_Q} {d0 d1 d2 : Int32} {ft : Nat → Int32} (hF : zz_R cs n n q = F) (hq : q.1 = 1 ∨ q.1 = 2 ∨ q.1 = 3) (hd : d2 = nI q.1) (h2 : ¬ d2 = 1) (h0 : d0 = 1) (h1 : d1 = nI n) : zz_rp F (-1) d0 d1 ft ft := by
  rw [zz_R_end, if_neg (fun z => h2 (by rw [hd, z]; rfl))] at hF
  rw [← hF]
  exact ⟨h0, h1, fun z => absurd (show (1 : Nat) = 0 from z) (by decide), fun _ => ⟨rfl, rfl⟩⟩
theorem zz_rp_ok {cs : Nat → Int32} {n : Nat} {F : Nat × Int32 × zz_Q} {q : zz_Q} {d0 d1 d2 d3 d4 d5 : Int32} {dr ft f2 : Nat → Int32} (hF : zz_R cs n n q = F) (hq : zz_qr q d2 d3 d4 d5 dr) (h2 : d2 = 1) (h0 : d0 = 0) (h1 : d1 = -1) (hf : ∀ w : Nat, w < 7 → f2 w = dr w) : zz_rp F d5 d0 d1 ft f2 := by
  have q1 : q.1 = 1 := zz_nI_inj (by have := hq.2.1; omega) (by decide) (hq.1.symm.trans h2)
  rw [zz_R_end, if_pos q1] at hF
  rw [← hF]
  exact ⟨h0, h1, fun _ => ⟨hq.2.2.2.2.1, fun w hw => (hf w hw).trans (hq.2.2.2.2.2 w hw)⟩, fun z => absurd rfl z⟩
