theorem zz_RF_b {cs : Nat → Int32} {n : Nat} : ∀ (f k : Nat) (q : zz_Q), (zz_RF cs n f k q).1 ≤ 3
  | 0, k, q => by rw [zz_RF]; split <;> exact Nat.le_of_ble_eq_true rfl
  | f + 1, k, q => by
    rw [zz_RF]
    split
    · split
      · exact zz_RF_b f (k + 1) _
      · exact zz_tk_b
    · exact zz_RF_b f (k + 1) q
/-- the draft's first three stay within 0 to 99 -/
def zz_dq (q : zz_Q) : Prop := zz_rg q.2.2.2.2 3 0 99
theorem zz_hi3 : ∀ w : Nat, w < 3 → (zz_lo7 w).toInt = 0 ∧ (zz_hi7 w).toInt = 99 := by decide
theorem zz_tk_dq {cs : Nat → Int32} {n k : Nat} {q : zz_Q} (h : zz_dq q) : zz_dq (zz_tk cs n k q).2 := by
  unfold zz_tk
  split
  · split
    · split
      · exact h
      · split
        · exact h
        · exact h
    · split
      · split
        · rename_i hr
          intro v hv
          show 0 ≤ (upd q.2.2.2.2 q.2.1 (nI (zz_nv cs k (zz_rl cs 2 (n - k) k))) v).toInt ∧ (upd q.2.2.2.2 q.2.1 (nI (zz_nv cs k (zz_rl cs 2 (n - k) k))) v).toInt ≤ 99
          by_cases e : v = q.2.1
          · simp only [upd, if_pos e]
            have b := zz_nv_b (cs := cs) (k := k) (zz_rl cs 2 (n - k) k)
            have c := zz_hi3 q.2.1 (by omega)
            rw [zz_toInt _ (by omega)]
            omega
          · simp only [upd, if_neg e]; exact h v hv
        · exact h
      · exact h
  · exact h
theorem zz_RF_dq {cs : Nat → Int32} {n : Nat} : ∀ (f k : Nat) (q : zz_Q), zz_dq q → zz_dq (zz_RF cs n f k q).2.2
  | 0, k, q, h => by rw [zz_RF]; split <;> exact h
  | f + 1, k, q, h => by
    rw [zz_RF]
    split
    · split
      · exact zz_RF_dq f (k + 1) _ (zz_tk_dq h)
      · exact zz_tk_dq h
    · exact zz_RF_dq f (k + 1) q h
theorem zz_un3 : zz_rg zz_un 3 0 99 := by
  intro k hk
  rcases (show k = 0 ∨ k = 1 ∨ k = 2 by omega) with rfl | rfl | rfl <;> decide
/-- where the reference's reading stands -/
def zz_cz (cs : Nat → Int32) (n : Nat) (F : Nat × Int32 × zz_Q) (mm : Nat) (kv sv tv wv av : Int32) (i2 n2 : Nat → Int32) (nn : Nat) : Prop := (wv = 0 ∧ av = -1 ∧ ∃ (q : zz_Q) (tp : Nat), tp ≤ n ∧ kv = nI tp ∧ zz_td cs n tp mm sv tv ∧ zz_bd cs tp ∧ zz_R cs n tp q = F ∧ q.1 = 1 ∧ q.2.2.2.1 = nn ∧ zz_mr q i2 n2) ∨ (¬ wv = 0 ∧ wv = nI F.1 ∧ av = F.2.1)
theorem zz_cz_step {cs : Nat → Int32} {n ma nn : Nat} {F : Nat × Int32 × zz_Q} {m2 : Nat} {k2 s2 t2 w2 a2 wa : Int32} {i2 n2 : Nat → Int32} (h : zz_ce cs n ma nn F wa m2 k2 s2 t2 w2 a2 i2 n2) (hw : wa = -1) : m2 ≤ n ∧ zz_cz cs n F m2 k2 s2 t2 w2 a2 i2 n2 (nn + 1) := by
  rcases h with ⟨a, b, c, d, _⟩ | ⟨a, b, c, d, q, tp, h1, h2, h3, h4, h5, h6, h7, h8⟩
  · exact ⟨d, Or.inr ⟨a, b, c⟩⟩
  · exact ⟨d, Or.inl ⟨a, b.trans hw, q, tp, h1, h2, h3, h4, h5, h6, h7, h8⟩⟩
theorem zz_cemu {cs : Nat → Int32} {n ma nn : Nat} {F : Nat × Int32 × zz_Q} {m2 : Nat} {k2 s2 t2 w2 a2 wa wv : Int32} {i2 n2 : Nat → Int32} (h : zz_ce cs n ma nn F wa m2 k2 s2 t2 w2 a2 i2 n2) (hw : wv = 0) : 2 * (n - m2) + (if w2 = 0 then 1 else 0) < 2 * (n - ma) + (if wv = 0 then 1 else 0) := by
  rw [if_pos hw]
  rcases h with ⟨a, b, c, d, e⟩ | ⟨a, b, c, d, _⟩
  · rw [if_neg a]; omega
  · rw [if_pos a]; omega
/-- the reading's end without a flaw -/
theorem zz_cz_end {cs : Nat → Int32} {n : Nat} {F : Nat × Int32 × zz_Q} {mm : Nat} {kv sv tv wv av : Int32} {i2 n2 c0 c2 : Nat → Int32} {nn : Nat} (h : zz_cz cs n F mm kv sv tv wv av i2 n2 nn) (hs : sv = 0 ∨ ¬ wv = 0) (hw : ¬ 0 < wv.toInt) (hb : F.1 ≤ 3) (hc : ∀ w : Nat, w < 7 → c2 w = n2 w) : zz_rp F (nI nn) wv av c0 c2 := by
  rcases h with ⟨a, b, q, tp, h1, h2, h3, h4, h5, h6, h7, h8⟩ | ⟨a, b, c⟩
  · have hs : sv = 0 := hs.elim id (fun z => absurd a z)
    have e : tp = n := by
      rcases h3 with ⟨g, _, _⟩ | ⟨_, _, _, g⟩ | ⟨_, _, g, _⟩ | ⟨_, _, ⟨_, g⟩ | ⟨_, g⟩⟩
      · exact g
      · rcases g with ⟨_, g⟩ | ⟨_, _, _, _, g⟩ <;> (rw [hs] at g; exact absurd g (by decide))
      · rw [hs] at g; exact absurd g (by decide)
      · rw [hs] at g; exact absurd g (by decide)
      · rw [hs] at g; exact absurd g (by decide)
    subst e
    rw [zz_R_end, if_pos h6] at h5
    rw [← h5]
    exact ⟨a, b, fun _ => ⟨by rw [← h7], fun w hw => (hc w hw).trans (h8.2 w hw)⟩, fun z => absurd rfl z⟩
  · exfalso
    rw [b, zz_toInt _ (by omega)] at hw
    exact a (by rw [b, show F.1 = 0 from by omega]; rfl)
theorem zz_cz_bad {cs : Nat → Int32} {n : Nat} {F : Nat × Int32 × zz_Q} {mm : Nat} {kv sv tv wv av : Int32} {i2 n2 c0 : Nat → Int32} {nn : Nat} (h : zz_cz cs n F mm kv sv tv wv av i2 n2 nn) (hw : 0 < wv.toInt) : zz_rp F (-1) wv av c0 c0 := by
  rcases h with ⟨a, _⟩ | ⟨a, b, c⟩
  · rw [a, show (0 : Int32).toInt = 0 from by decide] at hw; omega
  · exact zz_rp_bad a b c
theorem zz_in_ext {gi gn : Nat → Int32} {j : Nat} {x y : Int32} (h : ∀ w : Nat, w < j → gi w = 0 ∧ gn w = zz_un w) (hj : j < 7) (hx : x = 0) (hy : y = zz_un j) : ∀ w : Nat, w < j + 1 → (upd gi (Int32.toNatClampNeg (nI j)) x) w = 0 ∧ (upd gn (Int32.toNatClampNeg (nI j)) y) w = zz_un w := by
  intro w hw
  rw [zz_cl (by omega)]
  by_cases e : w = j
  · subst e; simp only [upd, if_pos]; exact ⟨hx, hy⟩
  · simp only [upd, if_neg e]; exact h w (by omega)
theorem zz_mr_0 {gi gn : Nat → Int32} {j : Nat} (h : ∀ w : Nat, w < j → gi w = 0 ∧ gn w = zz_un w) (hj : 7 ≤ j) : zz_mr ((1, 0, (fun _ => false), 0, zz_un) : zz_Q) gi gn := by
  refine ⟨fun w hw => ?_, fun w hw => (h w (by omega)).2⟩
  rw [(h w (by omega)).1]
  exact ⟨fun _ z => absurd (show false = true from z) (by decide), fun _ => rfl⟩
theorem zz_cp_ext {gc gn : Nat → Int32} {j : Nat} (h : ∀ w : Nat, w < j → gc w = gn w) (hj : j < 7) : ∀ w : Nat, w < j + 1 → (upd gc (Int32.toNatClampNeg (nI j)) (gn j)) w = gn w := by
  intro w hw
  rw [zz_cl (by omega)]
  by_cases e : w = j
  · subst e; simp only [upd, if_pos]
  · simp only [upd, if_neg e]; exact h w (by omega)
