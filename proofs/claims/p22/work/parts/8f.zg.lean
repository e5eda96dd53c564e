def zz_prn (ow dn gt : Nat → Int32) (mf : Nat) : Nat → Int32 := fun h => zz_pn ow dn gt (nI h) mf
def zz_dfn (dn : Nat → Int32) (mf : Nat) : Nat → Int32 := fun i => if i < mf then dn i else -1
def zz_pfn (dn gt : Nat → Int32) (mf : Nat) : Nat → Int32 := fun i => if i < mf then (if (dn i).toInt < 0 then -1 else gt i) else -1
def zz_dqn (nee dn : Nat → Int32) (mf : Nat) : Prop := ∀ k : Nat, k < mf → 1 ≤ (nee k).toInt → (dn k).toInt < 0
theorem zz_dfn_at {dn : Nat → Int32} {mf i : Nat} (h : i < mf) : zz_dfn dn mf i = dn i := if_pos h
theorem zz_pfn_at {dn gt : Nat → Int32} {mf i : Nat} (h : i < mf) : zz_pfn dn gt mf i = if (dn i).toInt < 0 then -1 else gt i := if_pos h
theorem zz_pn_cg {ow dn gt o2 d2 g2 : Nat → Int32} {x : Int32} : ∀ n : Nat, (∀ j : Nat, j < n → ow j = o2 j ∧ dn j = d2 j ∧ gt j = g2 j) → zz_pn ow dn gt x n = zz_pn o2 d2 g2 x n := by
  intro n
  induction n with
  | zero => intro _; rfl
  | succ n ih =>
    intro h
    obtain ⟨a, b, c⟩ := h n (by omega)
    rw [zz_pn, zz_pn, ih (fun j hj => h j (by omega)), a, b, c]
theorem zz_ng1 : ((-1 : Int32)).toInt = -1 := by decide
theorem zz_prn_new {ow dn gt : Nat → Int32} {mf : Nat} {p : Int32} : zz_prn (upd ow mf p) (upd dn mf (-1)) gt (mf + 1) = zz_prn ow dn gt mf := by
  funext h
  unfold zz_prn
  rw [zz_pn, if_neg (fun z => by have := z.2; rw [zz_up_s, zz_ng1] at this; omega), Int32.add_zero]
  exact zz_pn_cg mf (fun j hj => ⟨zz_up_n (by omega), zz_up_n (by omega), rfl⟩)
theorem zz_dfn_new {dn : Nat → Int32} {mf : Nat} : zz_dfn (upd dn mf (-1)) (mf + 1) = zz_dfn dn mf := by
  funext i
  unfold zz_dfn
  by_cases c : i < mf
  · rw [if_pos c, if_pos (show i < mf + 1 by omega), zz_up_n (by omega)]
  · rw [if_neg c]
    by_cases d : i < mf + 1
    · rw [if_pos d, show i = mf from by omega, zz_up_s]
    · rw [if_neg d]
theorem zz_pfn_new {dn gt : Nat → Int32} {mf : Nat} : zz_pfn (upd dn mf (-1)) gt (mf + 1) = zz_pfn dn gt mf := by
  funext i
  unfold zz_pfn
  by_cases c : i < mf
  · rw [if_pos c, if_pos (show i < mf + 1 by omega), zz_up_n (by omega)]
  · rw [if_neg c]
    by_cases d : i < mf + 1
    · rw [if_pos d, show i = mf from by omega, zz_up_s, if_pos (by rw [zz_ng1]; omega)]
    · rw [if_neg d]
theorem zz_pn_done {ow dn gt : Nat → Int32} {F : Nat} {x c P : Int32} (hc : 0 ≤ c.toInt) (hd : (dn F).toInt < 0) : ∀ n : Nat, zz_pn ow (upd dn F c) (upd gt F P) x n = zz_pn ow dn gt x n + (if F < n ∧ ow F = x then P else 0) := by
  intro n
  induction n with
  | zero => rw [if_neg (fun z => absurd z.1 (Nat.not_lt_zero _)), Int32.add_zero]; rfl
  | succ n ih =>
    rw [zz_pn, zz_pn, ih]
    by_cases e : n = F
    · rw [e, zz_up_s, zz_up_s, if_neg (fun z => absurd z.1 (Nat.lt_irrefl _)), Int32.add_zero]
      rw [if_neg (show ¬ (ow F = x ∧ 0 ≤ (dn F).toInt) from fun z => by have := z.2; omega), Int32.add_zero]
      by_cases q : ow F = x
      · rw [if_pos ⟨q, hc⟩, if_pos ⟨by omega, q⟩]
      · rw [if_neg (fun z => q z.1), if_neg (fun z => q z.2)]
    · rw [zz_up_n e, zz_up_n e]
      by_cases q : F < n ∧ ow F = x
      · rw [if_pos q, if_pos (show F < n + 1 ∧ ow F = x from ⟨by omega, q.2⟩), Int32.add_assoc, Int32.add_comm P, ← Int32.add_assoc]
      · rw [if_neg q, if_neg (show ¬ (F < n + 1 ∧ ow F = x) from fun z => q ⟨by have := z.1; omega, z.2⟩), Int32.add_zero, Int32.add_zero]
theorem zz_prn_done {ow dn gt : Nat → Int32} {F mf h : Nat} {c P : Int32} (hF : F < mf) (hc : 0 ≤ c.toInt) (hd : (dn F).toInt < 0) (hO : 0 ≤ (ow F).toInt) (hh : h < 8) : (upd (zz_prn ow dn gt mf) (Int32.toNatClampNeg (ow F)) (zz_prn ow dn gt mf (Int32.toNatClampNeg (ow F)) + P)) h = zz_prn ow (upd dn F c) (upd gt F P) mf h := by
  show _ = zz_pn ow (upd dn F c) (upd gt F P) (nI h) mf
  rw [zz_pn_done hc hd]
  by_cases e : h = Int32.toNatClampNeg (ow F)
  · rw [e, zz_up_s, if_pos ⟨hF, zz_back hO⟩]; rfl
  · rw [zz_up_n e, if_neg (fun z => e (by rw [z.2, zz_cl (by omega)])), Int32.add_zero]; rfl
theorem zz_dfn_done {dn : Nat → Int32} {F mf : Nat} {c : Int32} (hF : F < mf) : upd (zz_dfn dn mf) F c = zz_dfn (upd dn F c) mf := by
  funext i
  by_cases e : i = F
  · rw [e, zz_up_s, zz_dfn_at hF, zz_up_s]
  · rw [zz_up_n e]; unfold zz_dfn
    by_cases d : i < mf
    · rw [if_pos d, if_pos d, zz_up_n e]
    · rw [if_neg d, if_neg d]
theorem zz_pfn_done {dn gt : Nat → Int32} {F mf : Nat} {c P : Int32} (hF : F < mf) (hc : 0 ≤ c.toInt) : upd (zz_pfn dn gt mf) F P = zz_pfn (upd dn F c) (upd gt F P) mf := by
  funext i
  by_cases e : i = F
  · rw [e, zz_up_s, zz_pfn_at hF, zz_up_s, zz_up_s, if_neg (by omega)]
  · rw [zz_up_n e]; unfold zz_pfn
    by_cases d : i < mf
    · rw [if_pos d, if_pos d, zz_up_n e, zz_up_n e]
    · rw [if_neg d, if_neg d]
theorem zz_wd_to {a : Nat → Nat} {V2 : Nat → Nat → Int32} {h0 h1 h2 h3 h4 h5 h6 h7 ow kd ne2 re va dn gt : Nat → Int32} {mf F : Nat} {L P c : Int32} (hF : F < mf) (hc : 0 ≤ c.toInt) (hd : (dn F).toInt < 0) (hO : 0 ≤ (ow F).toInt) (aR : zz_RV a V2 h0 h1 h2 h3 h4 h5 h6 h7 (if L = 0 then upd (zz_prn ow dn gt mf) (Int32.toNatClampNeg (ow F)) (zz_prn ow dn gt mf (Int32.toNatClampNeg (ow F)) + P) else zz_prn ow dn gt mf) ow kd ne2 re va (if L = 0 then upd (zz_dfn dn mf) F c else zz_dfn dn mf) (if L = 0 then upd (zz_pfn dn gt mf) F P else zz_pfn dn gt mf)) : zz_RV a V2 h0 h1 h2 h3 h4 h5 h6 h7 (zz_prn ow (if L = 0 then upd dn F c else dn) (if L = 0 then upd gt F P else gt) mf) ow kd ne2 re va (zz_dfn (if L = 0 then upd dn F c else dn) mf) (zz_pfn (if L = 0 then upd dn F c else dn) (if L = 0 then upd gt F P else gt) mf) := by
  by_cases hL : L = 0
  · simp only [if_pos hL] at aR ⊢
    refine zz_RV_to aR (fun i hi => ⟨rfl, rfl, rfl, rfl, rfl, rfl, rfl, rfl, zz_prn_done hF hc hd hO hi⟩) (fun i hi => ⟨rfl, rfl, rfl, rfl, rfl, ?_, ?_⟩)
    · rw [zz_dfn_done hF]
    · rw [zz_pfn_done hF hc]
  · simp only [if_neg hL] at aR ⊢
    exact aR
theorem zz_wd_dq {nee dn : Nat → Int32} {mf F : Nat} {L c : Int32} (h : zz_dqn nee dn mf) (h1 : 1 ≤ (nee F).toInt) (hF : F < mf) : zz_dqn (upd nee F L) (if L = 0 then upd dn F c else dn) mf := by
  intro k hk hn
  by_cases e : k = F
  · rw [e, zz_up_s] at hn
    rw [if_neg (fun z => by rw [z, show (0 : Int32).toInt = 0 from by decide] at hn; omega), e]
    exact h F hF h1
  · rw [zz_up_n e] at hn
    by_cases z : L = 0
    · rw [if_pos z, zz_up_n e]; exact h k hk hn
    · rw [if_neg z]; exact h k hk hn
