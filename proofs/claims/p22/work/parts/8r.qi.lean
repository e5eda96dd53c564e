theorem zz_dd_end {N st nd : Nat → Nat} {h t0 s nl n k dy ud : Nat} (h1 : 1 ≤ h) (hi : ∀ a b : Nat, a < n → b < n → N a = N b → a = b) (h12 : ∀ a : Nat, a < n → N a < 12) (hs : ∀ a : Nat, a < n → t0 ≤ st (N a)) (hso : ∀ a b : Nat, a ≤ b → b < n → st (N a) ≤ st (N b)) (H : zz_dd N st nd h t0 s nl n k dy ud) (hk : k ≤ n) (hl : nl < k) (hr : k < n → ud ≤ h * (st (N k) - dy)) : zz_Dd (zz_bs N s n) st nd h t0 (N nl) (dy + (ud - 1) / h) := by
  obtain ⟨a, b, c, d, e⟩ := H
  obtain ⟨u1, e1, e2⟩ := e hl
  have le := zz_bs_le b
  have dm := Nat.div_add_mod (ud - 1) h
  have dl := Nat.mod_lt (ud - 1) (show 0 < h by omega)
  generalize (ud - 1) / h = qt at dm ⊢
  have far : ∀ j : Nat, k ≤ j → j < n → dy + qt < st (N j) := by
    intro j j1 j2
    have s1 := hso k j j1 j2
    have r := hr (by omega)
    rcases Nat.lt_or_ge qt (st (N k) - dy) with z | z
    · omega
    · have := Nat.mul_le_mul_left h z; omega
  have tn := hs nl (by omega)
  have same : ∀ x : Nat, x ≤ dy + qt → t0 ≤ x → zz_W (zz_bs N s n) st nd h t0 (x - t0) = zz_W (zz_bs N s k) st nd h t0 (x - t0) := fun x hx ht => zz_W_bs hi h12 n hk (Nat.le_refl _) (fun j j1 j2 _ => by have := far j j1 j2; omega)
  have tail : ∀ x : Nat, dy ≤ x → zz_W (zz_bs N s k) st nd h t0 (x - t0) = ud - h * (x - dy + 1) := by
    intro x hx
    rw [show x - t0 = dy - t0 + (x - dy) by omega, zz_W_tl a le, c]
  refine ⟨by omega, by omega, ?_, fun x x1 x2 => ?_⟩
  · rw [same _ (Nat.le_refl _) (by omega), tail _ (by omega), show dy + qt - dy + 1 = qt + 1 by omega, Nat.mul_add, Nat.mul_one]
    omega
  · rw [same x (by omega) (by omega)]
    by_cases y : x < dy
    · exact e2 x x1 y
    · rw [tail x (by omega)]
      have m : h * (x - dy + 1) ≤ h * qt := Nat.mul_le_mul_left h (by omega)
      omega
/-- the fields taken: in the order of their starts -/
def zz_tk7 (q0 q1 q2 q3 q4 nee re va : Nat → Int32) (t0 np : Nat) (R : Nat → Prop) : Prop := zz_pm q0 np R ∧ (∀ k : Nat, k < np → (q1 k).toInt = (zz_stf t0 re (zz_P q0 k) : Int) ∧ q2 k = nee (zz_P q0 k) ∧ q3 k = re (zz_P q0 k) ∧ q4 k = va (zz_P q0 k)) ∧ ∀ a b : Nat, a ≤ b → b < np → (q1 a).toInt ≤ (q1 b).toInt
def zz_ins (f : Nat → Int32) (k : Nat) (v : Int32) : Nat → Int32 := fun j => if j < k then f j else if j = k then v else f (j - 1)
theorem zz_ins_l {f : Nat → Int32} {k j : Nat} {v : Int32} (h : j < k) : zz_ins f k v j = f j := if_pos h
theorem zz_ins_s {f : Nat → Int32} {k : Nat} {v : Int32} : zz_ins f k v k = v := by unfold zz_ins; rw [if_neg (Nat.lt_irrefl _), if_pos rfl]
theorem zz_ins_g {f : Nat → Int32} {k j : Nat} {v : Int32} (h : k < j) : zz_ins f k v j = f (j - 1) := by unfold zz_ins; rw [if_neg (by omega), if_neg (by omega)]
def zz_sh (f q : Nat → Int32) (k np : Nat) : Prop := (∀ j : Nat, j < k → f j = q j) ∧ ∀ j : Nat, k < j → j ≤ np → f j = q (j - 1)
theorem zz_sh_0 {q : Nat → Int32} {np : Nat} : zz_sh q q np np := ⟨fun _ _ => rfl, fun j a b => absurd a (by omega)⟩
theorem zz_sh_s {f q : Nat → Int32} {k np : Nat} (h : zz_sh f q k np) (h1 : 1 ≤ k) (hk : k ≤ np) (hk7 : k < 7) : zz_sh (upd f (Int32.toNatClampNeg (nI k)) (f (k - 1))) q (k - 1) np := by
  rw [zz_cl (by omega)]
  refine ⟨fun j hj => by rw [zz_up_n (by omega)]; exact h.1 j (by omega), fun j a b => ?_⟩
  by_cases e : j = k
  · rw [e, zz_up_s]; exact h.1 (k - 1) (by omega)
  · rw [zz_up_n e]; exact h.2 j (by omega) b
theorem zz_sh_e {f q : Nat → Int32} {k np : Nat} {v : Int32} (h : zz_sh f q k np) (hk7 : k < 7) : ∀ j : Nat, j < np + 1 → upd f (Int32.toNatClampNeg (nI k)) v j = zz_ins q k v j := by
  intro j hj
  rw [zz_cl (by omega)]
  rcases Nat.lt_trichotomy j k with z | z | z
  · rw [zz_up_n (by omega), zz_ins_l z]; exact h.1 j z
  · rw [z, zz_up_s, zz_ins_s]
  · rw [zz_up_n (by omega), zz_ins_g z]; exact h.2 j z (by omega)
theorem zz_tk_no {q0 q1 q2 q3 q4 nee re va : Nat → Int32} {t0 np i : Nat} (h : zz_tk7 q0 q1 q2 q3 q4 nee re va t0 np (fun q => q < i ∧ 1 ≤ (nee q).toInt)) (hn : ¬ 1 ≤ (nee i).toInt) : zz_tk7 q0 q1 q2 q3 q4 nee re va t0 np (fun q => q < i + 1 ∧ 1 ≤ (nee q).toInt) := by
  obtain ⟨⟨⟨a, b⟩, c⟩, d, e⟩ := h
  refine ⟨⟨⟨fun k hk => ?_, b⟩, fun q hq => c q ⟨?_, hq.2⟩⟩, d, e⟩
  · obtain ⟨q, hq, h1, h2⟩ := a k hk
    exact ⟨q, ⟨by have := hq.1; omega, hq.2⟩, h1, h2⟩
  · by_cases z : q = i
    · rw [z] at hq; exact absurd hq.2 hn
    · have := hq.1; omega
theorem zz_tk_yes {q0 q1 q2 q3 q4 nee re va o0 o1 o2 o3 o4 : Nat → Int32} {t0 np i k : Nat} {ST : Int32} (h : zz_tk7 q0 q1 q2 q3 q4 nee re va t0 np (fun q => q < i ∧ 1 ≤ (nee q).toInt)) (hn : 1 ≤ (nee i).toInt) (hi : i < 12) (hk : k ≤ np) (e0 : ∀ j : Nat, j < np + 1 → o0 j = zz_ins q0 k (nI i) j) (e1 : ∀ j : Nat, j < np + 1 → o1 j = zz_ins q1 k ST j) (e2 : ∀ j : Nat, j < np + 1 → o2 j = zz_ins q2 k (nee i) j) (e3 : ∀ j : Nat, j < np + 1 → o3 j = zz_ins q3 k (re i) j) (e4 : ∀ j : Nat, j < np + 1 → o4 j = zz_ins q4 k (va i) j) (hST : ST.toInt = (zz_stf t0 re i : Int)) (s1 : k = 0 ∨ (q1 (k - 1)).toInt ≤ ST.toInt) (s2 : ∀ j : Nat, k ≤ j → j < np → ST.toInt < (q1 j).toInt) : zz_tk7 o0 o1 o2 o3 o4 nee re va t0 (np + 1) (fun q => q < i + 1 ∧ 1 ≤ (nee q).toInt) := by
  obtain ⟨⟨⟨a, b⟩, c⟩, d, e⟩ := h
  have src : ∀ j : Nat, j < np + 1 → (j = k ∧ o0 j = nI i ∧ o1 j = ST ∧ o2 j = nee i ∧ o3 j = re i ∧ o4 j = va i) ∨ ∃ x : Nat, x < np ∧ ((j < k ∧ x = j) ∨ (k < j ∧ x = j - 1)) ∧ o0 j = q0 x ∧ o1 j = q1 x ∧ o2 j = q2 x ∧ o3 j = q3 x ∧ o4 j = q4 x := by
    intro j hj
    rw [e0 j hj, e1 j hj, e2 j hj, e3 j hj, e4 j hj]
    rcases Nat.lt_trichotomy j k with z | z | z
    · exact Or.inr ⟨j, by omega, Or.inl ⟨z, rfl⟩, zz_ins_l z, zz_ins_l z, zz_ins_l z, zz_ins_l z, zz_ins_l z⟩
    · subst z
      exact Or.inl ⟨rfl, zz_ins_s, zz_ins_s, zz_ins_s, zz_ins_s, zz_ins_s⟩
    · exact Or.inr ⟨j - 1, by omega, Or.inr ⟨z, rfl⟩, zz_ins_g z, zz_ins_g z, zz_ins_g z, zz_ins_g z, zz_ins_g z⟩
  have ne : ∀ x : Nat, x < np → ¬ q0 x = nI i := by
    intro x hx z
    obtain ⟨q, hq, h1, h2⟩ := a x hx
    have t1 : (nI q).toInt = (nI i).toInt := by rw [← h2, z]
    rw [zz_toInt q (by omega), zz_toInt i (by omega)] at t1
    have := hq.1; omega
  have P1 : ∀ j : Nat, ∀ x : Nat, o0 j = q0 x → zz_P o0 j = zz_P q0 x := fun j x z => by unfold zz_P; rw [z]
  refine ⟨⟨⟨fun j hj => ?_, fun x y hx hy z => ?_⟩, fun q hq => ?_⟩, fun j hj => ?_, fun x y hxy hy => ?_⟩
  · rcases src j hj with w | ⟨x, hx, _, w, _⟩
    · exact ⟨i, ⟨by omega, hn⟩, hi, w.2.1⟩
    · obtain ⟨q, hq, h1, h2⟩ := a x hx
      exact ⟨q, ⟨by have := hq.1; omega, hq.2⟩, h1, by rw [w]; exact h2⟩
  · rcases src x hx with w | ⟨x2, hx2, pl, w, _⟩ <;> rcases src y hy with v | ⟨y2, hy2, pr, v, _⟩
    · omega
    · rw [w.2.1, v] at z; exact absurd z.symm (ne y2 hy2)
    · rw [w, v.2.1] at z; exact absurd z (ne x2 hx2)
    · rw [w, v] at z
      have := b x2 y2 hx2 hy2 z
      omega
  · by_cases z : q = i
    · refine ⟨k, by omega, ?_⟩
      rw [e0 k (by omega), zz_ins_s, z]
    · obtain ⟨x, hx, ex⟩ := c q ⟨by have := hq.1; omega, hq.2⟩
      by_cases w : x < k
      · exact ⟨x, by omega, by rw [e0 x (by omega), zz_ins_l w]; exact ex⟩
      · exact ⟨x + 1, by omega, by rw [e0 (x + 1) (by omega), zz_ins_g (by omega)]; exact ex⟩
  · rcases src j hj with ⟨_, w0, w1, w2, w3, w4⟩ | ⟨x, hx, _, w0, w1, w2, w3, w4⟩
    · rw [zz_P_e hi w0, w1, w2, w3, w4]; exact ⟨hST, rfl, rfl, rfl⟩
    · rw [P1 j x w0, w1, w2, w3, w4]; exact d x hx
  · have low : ∀ x2 : Nat, x2 < k → x2 < np → (q1 x2).toInt ≤ ST.toInt := by
      intro x2 h1 h2
      rcases s1 with w | w
      · omega
      · have := e x2 (k - 1) (by omega) (by omega); omega
    rcases src x (by omega) with w | ⟨x2, hx2, pl, _, w, _⟩ <;> rcases src y hy with v | ⟨y2, hy2, pr, _, v, _⟩
    · rw [w.2.2.1, v.2.2.1]; exact Int.le_refl _
    · rw [w.2.2.1, v]
      have := s2 y2 (by omega) hy2; omega
    · rw [w, v.2.2.1]
      exact low x2 (by omega) hx2
    · rw [w, v]; exact e x2 y2 (by omega) hy2
