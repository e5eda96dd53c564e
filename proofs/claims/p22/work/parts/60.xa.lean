/-- the sort of a byte -/
def zz_so (x : Int32) : Int32 := if x.toInt = 32 then 0 else if (97 ≤ x.toInt ∧ x.toInt ≤ 122) ∨ (65 ≤ x.toInt ∧ x.toInt ≤ 90) then 1 else if 48 ≤ x.toInt ∧ x.toInt ≤ 57 then 2 else if x.toInt = 59 then 3 else 4
theorem zz_so_cases (x : Int32) : zz_so x = 0 ∨ zz_so x = 1 ∨ zz_so x = 2 ∨ zz_so x = 3 ∨ zz_so x = 4 := by
  unfold zz_so
  split
  · exact Or.inl rfl
  · split
    · exact Or.inr (Or.inl rfl)
    · split
      · exact Or.inr (Or.inr (Or.inl rfl))
      · split
        · exact Or.inr (Or.inr (Or.inr (Or.inl rfl)))
        · exact Or.inr (Or.inr (Or.inr (Or.inr rfl)))
theorem zz_so1 {x : Int32} : zz_so x = 1 ↔ (97 ≤ x.toInt ∧ x.toInt ≤ 122) ∨ (65 ≤ x.toInt ∧ x.toInt ≤ 90) := by
  unfold zz_so
  split
  · constructor
    · intro h; exact absurd h (by decide)
    · intro h; omega
  · split
    · constructor
      · intro _; assumption
      · intro _; rfl
    · constructor
      · intro h
        split at h
        · exact absurd h (by decide)
        · split at h <;> exact absurd h (by decide)
      · intro h; contradiction
theorem zz_so0 {x : Int32} : zz_so x = 0 ↔ x.toInt = 32 := by
  unfold zz_so
  split
  · constructor
    · intro _; assumption
    · intro _; rfl
  · constructor
    · intro h
      split at h
      · exact absurd h (by decide)
      · split at h
        · exact absurd h (by decide)
        · split at h <;> exact absurd h (by decide)
    · intro h; contradiction
theorem zz_so2 {x : Int32} : zz_so x = 2 ↔ 48 ≤ x.toInt ∧ x.toInt ≤ 57 := by
  unfold zz_so
  split
  · constructor
    · intro h; exact absurd h (by decide)
    · intro h; omega
  · split
    · constructor
      · intro h; exact absurd h (by decide)
      · intro h; omega
    · split
      · constructor
        · intro _; assumption
        · intro _; rfl
      · constructor
        · intro h
          split at h <;> exact absurd h (by decide)
        · intro h; contradiction
theorem zz_so3 {x : Int32} : zz_so x = 3 ↔ x.toInt = 59 := by
  unfold zz_so
  split
  · constructor
    · intro h; exact absurd h (by decide)
    · intro h; omega
  · split
    · constructor
      · intro h; exact absurd h (by decide)
      · intro h; omega
    · split
      · constructor
        · intro h; exact absurd h (by decide)
        · intro h; omega
      · split
        · constructor
          · intro _; assumption
          · intro _; rfl
        · constructor
          · intro h; exact absurd h (by decide)
          · intro h; contradiction
theorem zz_so4 {x : Int32} (h0 : ¬ x.toInt = 32) (h1 : ¬ ((97 ≤ x.toInt ∧ x.toInt ≤ 122) ∨ (65 ≤ x.toInt ∧ x.toInt ≤ 90))) (h2 : ¬ (48 ≤ x.toInt ∧ x.toInt ≤ 57)) (h3 : ¬ x.toInt = 59) : 4 = zz_so x := by
  unfold zz_so
  rw [if_neg h0, if_neg h1, if_neg h2, if_neg h3]
/-- word w stands at k -/
abbrev zz_mt (cs : Nat → Int32) (w k : Nat) : Prop := (∀ i : Nat, i < zz_len7.getD w 0 → cs (k + i) = (zz_byt7.getD w []).getD i 0) ∧ ¬ zz_so (cs (k + zz_len7.getD w 0)) = 1
def zz_wdF (cs : Nat → Int32) (k : Nat) : Nat → Nat → Int32
  | 0, _ => -1
  | f + 1, w => if zz_mt cs w k then nI w else zz_wdF cs k f (w + 1)
def zz_wd (cs : Nat → Int32) (k : Nat) : Int32 := zz_wdF cs k 7 0
theorem zz_wdF_hit {cs : Nat → Int32} {k : Nat} : ∀ (f w v : Nat), w ≤ v → v < w + f → zz_mt cs v k → (∀ u : Nat, w ≤ u → u < v → ¬ zz_mt cs u k) → zz_wdF cs k f w = nI v
  | 0, w, v, h1, h2, _, _ => absurd h2 (by omega)
  | f + 1, w, v, h1, h2, hm, hn => by
    rw [zz_wdF]
    by_cases e : w = v
    · subst e; rw [if_pos hm]
    · rw [if_neg (hn w (Nat.le_refl _) (by omega))]
      exact zz_wdF_hit f (w + 1) v (by omega) (by omega) hm (fun u hu => hn u (by omega))
theorem zz_wdF_no {cs : Nat → Int32} {k : Nat} : ∀ (f w : Nat), (∀ u : Nat, w ≤ u → u < w + f → ¬ zz_mt cs u k) → zz_wdF cs k f w = -1
  | 0, _, _ => rfl
  | f + 1, w, h => by
    rw [zz_wdF, if_neg (h w (Nat.le_refl _) (by omega))]
    exact zz_wdF_no f (w + 1) (fun u hu h2 => h u (by omega) (by omega))
/-- what stands in a row of letters -/
def zz_run (cs : Nat → Int32) (v : Int32) (k n : Nat) : Prop := ∀ i : Nat, i < n → zz_so (cs (k + i)) = v
theorem zz_byt_letter : ∀ w : Nat, w < 7 → ∀ i : Nat, i < zz_len7.getD w 0 → zz_so ((zz_byt7.getD w []).getD i 0) = 1 := by decide +kernel
/-- a word's length is the run's -/
theorem zz_mt_len {cs : Nat → Int32} {w k n : Nat} (hw : w < 7) (h : zz_mt cs w k) (hr : zz_run cs 1 k n) (he : ¬ zz_so (cs (k + n)) = 1) : zz_len7.getD w 0 = n := by
  rcases Nat.lt_trichotomy (zz_len7.getD w 0) n with z | z | z
  · exact absurd (hr _ z) h.2
  · exact z
  · have := h.1 n z
    rw [this] at he
    exact absurd (zz_byt_letter w hw n z) he
/-- the code of a row of letters, as the reference reckons it -/
def zz_cd (cs : Nat → Int32) (k : Nat) : Nat → Int
  | 0 => 0
  | n + 1 => 64 * zz_cd cs k n + (cs (k + n)).toInt - 64
theorem zz_letter_d {x : Int32} (h : zz_so x = 1) : 1 ≤ x.toInt - 64 ∧ x.toInt - 64 ≤ 58 := by
  have := zz_so1.mp h
  omega
theorem zz_cd_lo {cs : Nat → Int32} {k : Nat} : ∀ n : Nat, zz_run cs 1 k n → 0 ≤ zz_cd cs k n ∧ (1 ≤ n → 1 ≤ zz_cd cs k n)
  | 0, _ => ⟨Int.le_refl _, fun h => absurd h (by omega)⟩
  | n + 1, h => by
    have a := zz_cd_lo n (fun i hi => h i (by omega))
    have b := zz_letter_d (h n (by omega))
    rw [zz_cd]
    exact ⟨by omega, fun _ => by omega⟩
/-- two rows of letters with one code are one row -/
theorem zz_cd_inj {cs ct : Nat → Int32} {k q : Nat} : ∀ n m : Nat, zz_run cs 1 k n → zz_run ct 1 q m → zz_cd cs k n = zz_cd ct q m → n = m ∧ ∀ i : Nat, i < n → cs (k + i) = ct (q + i)
  | 0, 0, _, _, _ => ⟨rfl, fun i h => absurd h (by omega)⟩
  | 0, m + 1, _, h2, e => by
    have := (zz_cd_lo (m + 1) h2).2 (by omega)
    rw [← e, zz_cd] at this; omega
  | n + 1, 0, h1, _, e => by
    have := (zz_cd_lo (n + 1) h1).2 (by omega)
    rw [e, zz_cd] at this; omega
  | n + 1, m + 1, h1, h2, e => by
    have a := zz_letter_d (h1 n (by omega))
    have b := zz_letter_d (h2 m (by omega))
    rw [zz_cd, zz_cd] at e
    have c : zz_cd cs k n = zz_cd ct q m := by omega
    obtain ⟨d, f⟩ := zz_cd_inj n m (fun i hi => h1 i (by omega)) (fun i hi => h2 i (by omega)) c
    have g : cs (k + n) = ct (q + m) := by
      rw [← Int32.toInt_inj]; omega
    subst d
    refine ⟨rfl, fun i hi => ?_⟩
    by_cases ei : i = n
    · subst ei; exact g
    · exact f i (by omega)
/-- the words' codes -/
def zz_code7 : List Int := [816978868, 13260912, 596061369, 747048165, 667556069, 10157028, 14555621]
theorem zz_code_ok : ∀ w : Nat, w < 7 → zz_cd (fun i => (zz_byt7.getD w []).getD i 0) 0 (zz_len7.getD w 0) = zz_code7.getD w 0 := by decide +kernel
theorem zz_mt_of_code {cs : Nat → Int32} {w k n : Nat} (hw : w < 7) (hr : zz_run cs 1 k n) (he : ¬ zz_so (cs (k + n)) = 1) : zz_mt cs w k ↔ zz_cd cs k n = zz_code7.getD w 0 := by
  have hb : zz_run (fun i => (zz_byt7.getD w []).getD i 0) 1 0 (zz_len7.getD w 0) := fun i hi => by
    show zz_so ((zz_byt7.getD w []).getD (0 + i) 0) = 1
    rw [Nat.zero_add]; exact zz_byt_letter w hw i hi
  constructor
  · intro h
    have hn := zz_mt_len hw h hr he
    rw [← zz_code_ok w hw, hn]
    have : ∀ m : Nat, m ≤ n → zz_cd cs k m = zz_cd (fun i => (zz_byt7.getD w []).getD i 0) 0 m := by
      intro m
      induction m with
      | zero => intro _; rfl
      | succ m ih =>
        intro hm
        rw [zz_cd, zz_cd, ih (by omega), h.1 m (by omega), Nat.zero_add]
    exact this n (Nat.le_refl _)
  · intro h
    rw [← zz_code_ok w hw] at h
    obtain ⟨d, f⟩ := zz_cd_inj n _ hr hb h
    refine ⟨fun i hi => ?_, ?_⟩
    · have := f i (by omega)
      rw [Nat.zero_add] at this; exact this
    · rw [← d]; exact he
theorem zz_code_ne : ∀ w : Nat, w < 7 → ∀ v : Nat, v < 7 → zz_code7.getD w 0 = zz_code7.getD v 0 → w = v := by decide +kernel
/-- the word by its code, as the reference tells it -/
theorem zz_wd_hit {cs : Nat → Int32} {w k n : Nat} (hw : w < 7) (hr : zz_run cs 1 k n) (he : ¬ zz_so (cs (k + n)) = 1) (hc : zz_cd cs k n = zz_code7.getD w 0) : zz_wd cs k = nI w := by
  refine zz_wdF_hit 7 0 w (Nat.zero_le _) (by omega) ((zz_mt_of_code hw hr he).mpr hc) (fun u _ hu z => ?_)
  have h2 := (zz_mt_of_code (show u < 7 by omega) hr he).mp z
  have := zz_code_ne u (by omega) w hw (h2.symm.trans hc)
  omega
theorem zz_wd_no {cs : Nat → Int32} {k n : Nat} (hr : zz_run cs 1 k n) (he : ¬ zz_so (cs (k + n)) = 1) (hc : ∀ w : Nat, w < 7 → ¬ zz_cd cs k n = zz_code7.getD w 0) : zz_wd cs k = -1 :=
  zz_wdF_no 7 0 (fun u _ hu z => hc u (by omega) ((zz_mt_of_code (by omega) hr he).mp z))
theorem zz_len_5 : ∀ w : Nat, w < 7 → zz_len7.getD w 0 ≤ 5 := by decide
/-- a run longer than any word -/
theorem zz_wd_long {cs : Nat → Int32} {k n : Nat} (hr : zz_run cs 1 k n) (he : ¬ zz_so (cs (k + n)) = 1) (hn : 5 < n) : zz_wd cs k = -1 :=
  zz_wdF_no 7 0 (fun u _ hu z => by
    have a := zz_mt_len (by omega) z hr he
    have := zz_len_5 u (by omega)
    omega)
/-- the number that k digits tell, no more than 1000 -/
def zz_nv (cs : Nat → Int32) (k : Nat) : Nat → Nat
  | 0 => 0
  | n + 1 => min 1000 (zz_nv cs k n * 10 + ((cs (k + n)).toInt - 48).toNat)
theorem zz_nv_b {cs : Nat → Int32} {k : Nat} : ∀ n : Nat, zz_nv cs k n ≤ 1000
  | 0 => by rw [zz_nv]; omega
  | n + 1 => by rw [zz_nv]; exact Nat.min_le_left _ _
/-- the class's step -/
theorem zz_nv_step {cs : Nat → Int32} {k n : Nat} (h : zz_so (cs (k + n)) = 2) : (if (nI (zz_nv cs k n) * 10 + cs (k + n)) - 48 < 1000 then (nI (zz_nv cs k n) * 10 + cs (k + n)) - 48 else 1000) = nI (zz_nv cs k (n + 1)) := by
  have b := zz_nv_b (cs := cs) (k := k) n
  have d := zz_so2.mp h
  have e1 : (nI (zz_nv cs k n) * 10).toInt = (zz_nv cs k n : Int) * 10 := by
    rw [Int32.toInt_mul, zz_toInt _ (by omega), show (10 : Int32).toInt = 10 from by decide]
    rw [Int.bmod_eq_of_le] <;> omega
  have e2 : (nI (zz_nv cs k n) * 10 + cs (k + n)).toInt = (zz_nv cs k n : Int) * 10 + (cs (k + n)).toInt := by
    rw [Int32.toInt_add, e1]
    rw [Int.bmod_eq_of_le] <;> omega
  have e3 : ((nI (zz_nv cs k n) * 10 + cs (k + n)) - 48).toInt = (zz_nv cs k n : Int) * 10 + (cs (k + n)).toInt - 48 := by
    rw [Int32.toInt_sub, e2, show (48 : Int32).toInt = 48 from by decide]
    rw [Int.bmod_eq_of_le] <;> omega
  rw [← Int32.toInt_inj, zz_nv]
  by_cases c : (nI (zz_nv cs k n) * 10 + cs (k + n)) - 48 < 1000
  · rw [if_pos c, e3, zz_toInt _ (by omega)]
    rw [Int32.lt_iff_toInt_lt, e3, show (1000 : Int32).toInt = 1000 from by decide] at c
    omega
  · rw [if_neg c, zz_toInt _ (by omega), show (1000 : Int32).toInt = 1000 from by decide]
    rw [Int32.lt_iff_toInt_lt, e3, show (1000 : Int32).toInt = 1000 from by decide] at c
    omega
/-- the reference's number t beside it -/
def zz_tn (t : Int32) (v : Nat) : Prop := 0 ≤ t.toInt ∧ t.toInt ≤ 1000000 ∧ ((t.toInt < 1000 ∧ (v : Int) = t.toInt) ∨ (1000 ≤ t.toInt ∧ v = 1000))
theorem zz_tn_0 {cs : Nat → Int32} {k : Nat} : zz_tn 0 (zz_nv cs k 0) := ⟨by decide, by decide, Or.inl ⟨by decide, by rw [zz_nv]; decide⟩⟩
theorem zz_tn_keep {cs : Nat → Int32} {k n : Nat} {t : Int32} (h : zz_tn t (zz_nv cs k n)) (ht : 99999 < t.toInt) (hs : zz_so (cs (k + n)) = 2) : zz_tn t (zz_nv cs k (n + 1)) := by
  have d := zz_so2.mp hs
  obtain ⟨a, b, c⟩ := h
  refine ⟨a, b, Or.inr ⟨by omega, ?_⟩⟩
  rw [zz_nv]; omega
theorem zz_tn_step {cs : Nat → Int32} {k n : Nat} {t : Int32} (h : zz_tn t (zz_nv cs k n)) (ht : ¬ 99999 < t.toInt) (hs : zz_so (cs (k + n)) = 2) : zz_tn ((10 * t + cs (k + n)) - 48) (zz_nv cs k (n + 1)) := by
  have d := zz_so2.mp hs
  obtain ⟨a, b, c⟩ := h
  have e1 : (10 * t).toInt = 10 * t.toInt := by
    rw [Int32.toInt_mul, show (10 : Int32).toInt = 10 from by decide]
    rw [Int.bmod_eq_of_le] <;> omega
  have e2 : (10 * t + cs (k + n)).toInt = 10 * t.toInt + (cs (k + n)).toInt := by
    rw [Int32.toInt_add, e1]
    rw [Int.bmod_eq_of_le] <;> omega
  have e3 : ((10 * t + cs (k + n)) - 48).toInt = 10 * t.toInt + (cs (k + n)).toInt - 48 := by
    rw [Int32.toInt_sub, e2, show (48 : Int32).toInt = 48 from by decide]
    rw [Int.bmod_eq_of_le] <;> omega
  unfold zz_tn
  rw [e3, zz_nv]
  rcases c with ⟨c1, c2⟩ | ⟨c1, c2⟩
  · refine ⟨by omega, by omega, ?_⟩
    by_cases z : 10 * t.toInt + (cs (k + n)).toInt - 48 < 1000
    · exact Or.inl ⟨z, by omega⟩
    · exact Or.inr ⟨by omega, by omega⟩
  · exact ⟨by omega, by omega, Or.inr ⟨by omega, by omega⟩⟩
/-- how many of one sort stand from k on -/
def zz_rl (cs : Nat → Int32) (v : Int32) : Nat → Nat → Nat
  | 0, _ => 0
  | f + 1, k => if zz_so (cs k) = v then zz_rl cs v f (k + 1) + 1 else 0
theorem zz_rl_eq {cs : Nat → Int32} {v : Int32} : ∀ (f k m : Nat), m ≤ f → zz_run cs v k m → (m < f → ¬ zz_so (cs (k + m)) = v) → zz_rl cs v f k = m
  | 0, k, m, h, _, _ => by rw [zz_rl]; omega
  | f + 1, k, 0, h, hr, he => by rw [zz_rl, if_neg (show ¬ zz_so (cs k) = v from he (by omega))]
  | f + 1, k, m + 1, h, hr, he => by
    have h0 := hr 0 (by omega)
    rw [Nat.add_zero] at h0
    rw [zz_rl, if_pos h0, zz_rl_eq f (k + 1) m (by omega) (fun i hi => by
      have := hr (i + 1) (by omega)
      rw [show k + (i + 1) = k + 1 + i by omega] at this; exact this) (fun hm => by
      have := he (by omega)
      rw [show k + (m + 1) = k + 1 + m by omega] at this; exact this)]
/-- what is told so far: the sort wanted, the word, the words seen, the clauses, the draft -/
abbrev zz_Q := Nat × Nat × (Nat → Bool) × Nat × (Nat → Int32)
def zz_ub (s : Nat → Bool) (w : Nat) : Nat → Bool := fun j => if j = w then true else s j
/-- a token is taken: 0, or what is wrong with it -/
def zz_tk (cs : Nat → Int32) (n k : Nat) (q : zz_Q) : Nat × zz_Q :=
  if zz_so (cs k) = nI q.1 then
    (if q.1 = 1 then (if zz_wd cs k = -1 then (1, q) else if q.2.2.1 (zz_wd cs k).toNatClampNeg = true then (2, q) else (0, (2, (zz_wd cs k).toNatClampNeg, zz_ub q.2.2.1 (zz_wd cs k).toNatClampNeg, q.2.2.2.1, q.2.2.2.2)))
     else if q.1 = 2 then (if (zz_lo7 q.2.1).toInt ≤ (zz_nv cs k (zz_rl cs 2 (n - k) k) : Int) ∧ (zz_nv cs k (zz_rl cs 2 (n - k) k) : Int) ≤ (zz_hi7 q.2.1).toInt then (0, (3, q.2.1, q.2.2.1, q.2.2.2.1, upd q.2.2.2.2 q.2.1 (nI (zz_nv cs k (zz_rl cs 2 (n - k) k))))) else (3, q))
     else (0, (1, q.2.1, q.2.2.1, q.2.2.2.1 + 1, q.2.2.2.2)))
  else (1, q)
def zz_pv (cs : Nat → Int32) (k : Nat) : Int32 := if k = 0 then 0 else zz_so (cs (k - 1))
abbrev zz_bt (cs : Nat → Int32) (k : Nat) : Prop := ((zz_so (cs k) = 1 ∨ zz_so (cs k) = 2) ∧ ¬ zz_so (cs k) = zz_pv cs k) ∨ (¬ (zz_so (cs k) = 1 ∨ zz_so (cs k) = 2) ∧ ¬ zz_so (cs k) = 0)
/-- the whole reading from place k on -/
def zz_RF (cs : Nat → Int32) (n : Nat) : Nat → Nat → zz_Q → Nat × Int32 × zz_Q
  | 0, _, q => if q.1 = 1 then (0, -1, q) else (1, nI n, q)
  | f + 1, k, q => if zz_bt cs k then (if (zz_tk cs n k q).1 = 0 then zz_RF cs n f (k + 1) (zz_tk cs n k q).2 else ((zz_tk cs n k q).1, nI k, (zz_tk cs n k q).2)) else zz_RF cs n f (k + 1) q
def zz_R (cs : Nat → Int32) (n k : Nat) (q : zz_Q) : Nat × Int32 × zz_Q := zz_RF cs n (n - k) k q
theorem zz_R_no {cs : Nat → Int32} {n k : Nat} {q : zz_Q} (hk : k < n) (h : ¬ zz_bt cs k) : zz_R cs n k q = zz_R cs n (k + 1) q := by
  unfold zz_R
  rw [show n - k = (n - (k + 1)) + 1 by omega, zz_RF, if_neg h]
theorem zz_R_ok {cs : Nat → Int32} {n k : Nat} {q : zz_Q} (hk : k < n) (h : zz_bt cs k) (h0 : (zz_tk cs n k q).1 = 0) : zz_R cs n k q = zz_R cs n (k + 1) (zz_tk cs n k q).2 := by
  unfold zz_R
  rw [show n - k = (n - (k + 1)) + 1 by omega, zz_RF, if_pos h, if_pos h0]
theorem zz_R_bad {cs : Nat → Int32} {n k : Nat} {q : zz_Q} (hk : k < n) (h : zz_bt cs k) (h0 : ¬ (zz_tk cs n k q).1 = 0) : zz_R cs n k q = ((zz_tk cs n k q).1, nI k, (zz_tk cs n k q).2) := by
  unfold zz_R
  rw [show n - k = (n - (k + 1)) + 1 by omega, zz_RF, if_pos h, if_neg h0]
theorem zz_R_end {cs : Nat → Int32} {n : Nat} {q : zz_Q} : zz_R cs n n q = if q.1 = 1 then (0, -1, q) else (1, nI n, q) := by
  unfold zz_R
  rw [Nat.sub_self, zz_RF]
theorem zz_bt_0 {cs : Nat → Int32} {k : Nat} (h : zz_so (cs k) = 0) : ¬ zz_bt cs k := by
  rintro (⟨a, b⟩ | ⟨a, b⟩)
  · rw [h] at a; rcases a with a | a <;> exact absurd a (by decide)
  · exact b h
theorem zz_R_blank {cs : Nat → Int32} {n p : Nat} {q : zz_Q} : ∀ t : Nat, p ≤ t → t ≤ n → (∀ i : Nat, p ≤ i → i < t → zz_so (cs i) = 0) → zz_R cs n p q = zz_R cs n t q
  | 0, h1, _, _ => by rw [show p = 0 by omega]
  | t + 1, h1, h2, h => by
    by_cases e : p = t + 1
    · rw [e]
    · rw [zz_R_blank t (by omega) (by omega) (fun i hi hit => h i hi (by omega)), zz_R_no (by omega) (zz_bt_0 (h t (by omega) (by omega)))]
theorem zz_R_run {cs : Nat → Int32} {n k : Nat} {v : Int32} {q : zz_Q} (hv : v = 1 ∨ v = 2) : ∀ m : Nat, 1 ≤ m → k + m ≤ n → zz_run cs v k m → zz_R cs n (k + 1) q = zz_R cs n (k + m) q
  | 0, h, _, _ => absurd h (by omega)
  | m + 1, _, h2, h => by
    by_cases e : m = 0
    · rw [e]
    · rw [zz_R_run hv m (by omega) (by omega) (fun i hi => h i (by omega))]
      refine zz_R_no (by omega) ?_
      have a := h m (by omega)
      have b := h (m - 1) (by omega)
      have c : zz_pv cs (k + m) = v := by
        unfold zz_pv
        rw [if_neg (by omega), show k + m - 1 = k + (m - 1) by omega, b]
      rintro (⟨x, y⟩ | ⟨x, y⟩)
      · exact y (a.trans c.symm)
      · refine x ?_
        rw [a]; exact hv
/-- a token may begin here -/
def zz_bd (cs : Nat → Int32) (k : Nat) : Prop := ¬ (zz_so (cs k) = 1 ∨ zz_so (cs k) = 2) ∨ ¬ zz_so (cs k) = zz_pv cs k
theorem zz_bd_bt {cs : Nat → Int32} {k : Nat} (h : zz_bd cs k) (h0 : ¬ zz_so (cs k) = 0) : zz_bt cs k := by
  by_cases c : zz_so (cs k) = 1 ∨ zz_so (cs k) = 2
  · rcases h with h | h
    · exact absurd c h
    · exact Or.inl ⟨c, h⟩
  · exact Or.inr ⟨c, h0⟩
theorem zz_bd_0 {cs : Nat → Int32} : zz_bd cs 0 := by
  unfold zz_bd zz_pv
  rw [if_pos rfl]
  by_cases c : zz_so (cs 0) = 1 ∨ zz_so (cs 0) = 2
  · refine Or.inr (fun z => ?_)
    rw [z] at c
    rcases c with c | c <;> exact absurd c (by decide)
  · exact Or.inl c
theorem zz_bd_blank {cs : Nat → Int32} {p t : Nat} (h : zz_bd cs p) (hp : p ≤ t) (hb : ∀ i : Nat, p ≤ i → i < t → zz_so (cs i) = 0) : zz_bd cs t := by
  by_cases e : p = t
  · rw [← e]; exact h
  · unfold zz_bd zz_pv
    rw [if_neg (by omega), hb (t - 1) (by omega) (by omega)]
    by_cases c : zz_so (cs t) = 1 ∨ zz_so (cs t) = 2
    · refine Or.inr (fun z => ?_)
      rw [z] at c
      rcases c with c | c <;> exact absurd c (by decide)
    · exact Or.inl c
theorem zz_bd_run {cs : Nat → Int32} {k m : Nat} {v : Int32} (hm : 1 ≤ m) (hr : zz_run cs v k m) (he : ¬ zz_so (cs (k + m)) = v) : zz_bd cs (k + m) := by
  unfold zz_bd zz_pv
  rw [if_neg (by omega), show k + m - 1 = k + (m - 1) by omega, hr (m - 1) (by omega)]
  exact Or.inr he
theorem zz_bd_one {cs : Nat → Int32} {k : Nat} (h : ¬ (zz_so (cs k) = 1 ∨ zz_so (cs k) = 2)) : zz_bd cs (k + 1) := by
  unfold zz_bd zz_pv
  rw [if_neg (by omega), show k + 1 - 1 = k by omega]
  by_cases c : zz_so (cs (k + 1)) = 1 ∨ zz_so (cs (k + 1)) = 2
  · refine Or.inr (fun z => h ?_)
    rw [z] at c; exact c
  · exact Or.inl c
/-- the byte at a place, a blank outside -/
def zz_cs (fb : Nat → Int32) (nt : Nat) : Nat → Int32 := fun i => if i < nt then fb i else 32
def zz_ca (fb : Nat → Int32) (nt : Nat) (x : Int32) : Int32 := if 0 ≤ x.toInt ∧ x.toInt < (nt : Int) then fb x.toNatClampNeg else 32
theorem zz_ca_n {fb : Nat → Int32} {nt i : Nat} (h : i < 2147483648) : zz_ca fb nt (nI i) = zz_cs fb nt i := by
  unfold zz_ca zz_cs
  rw [zz_toInt i h, zz_cl h]
  by_cases c : i < nt
  · rw [if_pos c, if_pos (by omega)]
  · rw [if_neg c, if_neg (by omega)]
theorem zz_ca_p {fb : Nat → Int32} {nt k : Nat} (h : k < 2147483648) : zz_so (zz_ca fb nt (nI k - 1)) = zz_pv (zz_cs fb nt) k := by
  unfold zz_pv
  by_cases c : k = 0
  · rw [if_pos c, c]
    unfold zz_ca
    rw [if_neg (by rw [show (nI 0 - 1).toInt = -1 from by decide]; omega)]
    decide
  · rw [if_neg c, zz_predN (by omega), zz_ca_n (by omega)]
theorem zz_byt255 : ∀ w : Nat, w < 7 → ∀ i : Nat, i < zz_len7.getD w 0 → ((zz_byt7.getD w []).getD i 0) &&& 255 = (zz_byt7.getD w []).getD i 0 := by decide +kernel
theorem zz_mt_no {cs : Nat → Int32} {w k i : Nat} (hi : i < zz_len7.getD w 0) (h : ¬ cs (k + i) = (zz_byt7.getD w []).getD i 0) : ¬ zz_mt cs w k := fun z => h (z.1 i hi)
theorem zz_mt_ext {cs : Nat → Int32} {w k i : Nat} (h : ∀ j : Nat, j < i → cs (k + j) = (zz_byt7.getD w []).getD j 0) (he : cs (k + i) = (zz_byt7.getD w []).getD i 0) : ∀ j : Nat, j < i + 1 → cs (k + j) = (zz_byt7.getD w []).getD j 0 := by
  intro j hj
  by_cases e : j = i
  · subst e; exact he
  · exact h j (by omega)
