def zz_or (od : Nat → Int32) (wt : Nat) (P : Nat → Prop) : Prop := (∀ i : Nat, i < wt → ∃ q : Nat, P q ∧ q < 12 ∧ od i = nI q) ∧ ∀ i j : Nat, i < wt → j < wt → od i = od j → i = j
def zz_sw (od : Nat → Int32) (i k : Nat) : Nat → Int32 := fun j => if j = k then od i else if j = i then od k else od j
theorem zz_sw_eq {od : Nat → Int32} {i k : Nat} (hi : i < 7) (hk : k < 7) : upd (upd od (Int32.toNatClampNeg (nI i)) (od k)) (Int32.toNatClampNeg (nI k)) (od i) = zz_sw od i k := by
  rw [zz_cl (show i < 2147483648 by omega), zz_cl (show k < 2147483648 by omega)]
  rfl
theorem zz_sw_or {od : Nat → Int32} {wt i k : Nat} {P : Nat → Prop} (h : zz_or od wt P) (hi : i < wt) (hk : k < wt) : zz_or (zz_sw od i k) wt P := by
  refine ⟨fun j hj => ?_, fun a b ha hb e => ?_⟩
  · unfold zz_sw
    by_cases e1 : j = k
    · rw [if_pos e1]; exact h.1 i hi
    · rw [if_neg e1]
      by_cases e2 : j = i
      · rw [if_pos e2]; exact h.1 k hk
      · rw [if_neg e2]; exact h.1 j hj
  · have key : ∀ j : Nat, zz_sw od i k j = od (if j = k then i else if j = i then k else j) := by
      intro j; unfold zz_sw
      by_cases e1 : j = k
      · rw [if_pos e1, if_pos e1]
      · rw [if_neg e1, if_neg e1]
        by_cases e2 : j = i
        · rw [if_pos e2, if_pos e2]
        · rw [if_neg e2, if_neg e2]
    rw [key, key] at e
    have lt : ∀ j : Nat, j < wt → (if j = k then i else if j = i then k else j) < wt := by
      intro j hj; split
      · exact hi
      · split
        · exact hk
        · exact hj
    have := h.2 _ _ (lt a ha) (lt b hb) e
    split at this <;> split at this <;> (try split at this) <;> (try split at this) <;> omega
theorem zz_sw_out {od : Nat → Int32} {i k j : Nat} (h1 : ¬ j = i) (h2 : ¬ j = k) : zz_sw od i k j = od j := by
  unfold zz_sw; rw [if_neg h2, if_neg h1]
theorem zz_sw_i {od : Nat → Int32} {i k : Nat} : zz_sw od i k i = od k := by
  unfold zz_sw
  by_cases e : i = k
  · rw [if_pos e, e]
  · rw [if_neg e, if_pos rfl]
/-- the order as a number -/
def zz_lx (od : Nat → Int32) : Nat → Nat
  | 0 => 0
  | k + 1 => zz_lx od k * 12 + (od k).toInt.toNat
theorem zz_or_d {od : Nat → Int32} {wt : Nat} {P : Nat → Prop} (h : zz_or od wt P) {k : Nat} (hk : k < wt) : 0 ≤ (od k).toInt ∧ (od k).toInt ≤ 11 := by
  obtain ⟨q, _, hq, e⟩ := h.1 k hk
  rw [e, zz_toInt q (by omega)]; omega
theorem zz_lx_eq {od o2 : Nat → Int32} : ∀ n : Nat, (∀ k : Nat, k < n → o2 k = od k) → zz_lx o2 n = zz_lx od n
  | 0, _ => rfl
  | n + 1, h => by rw [zz_lx, zz_lx, zz_lx_eq n (fun k hk => h k (by omega)), h n (by omega)]
theorem zz_lx_lt {od o2 : Nat → Int32} {wt i : Nat} {P : Nat → Prop} (h : zz_or od wt P) (h2 : zz_or o2 wt P) (hi : i < wt) (he : ∀ k : Nat, k < i → o2 k = od k) (hl : (od i).toInt < (o2 i).toInt) : ∀ n : Nat, i < n → n ≤ wt → zz_lx od n < zz_lx o2 n
  | 0, h0, _ => absurd h0 (by omega)
  | n + 1, h0, h1 => by
    rw [zz_lx, zz_lx]
    have a := zz_or_d h (k := n) (by omega)
    have b := zz_or_d h2 (k := n) (by omega)
    by_cases e : n = i
    · subst e
      rw [zz_lx_eq n he]; omega
    · have := zz_lx_lt h h2 hi he hl n (by omega) (by omega)
      omega
theorem zz_lx_b {od : Nat → Int32} {wt : Nat} {P : Nat → Prop} (h : zz_or od wt P) : ∀ n : Nat, n ≤ wt → zz_lx od n < 12 ^ n
  | 0, _ => by rw [zz_lx]; decide
  | n + 1, hn => by
    rw [zz_lx, Nat.pow_succ]
    have a := zz_or_d h (k := n) (by omega)
    have := zz_lx_b h n (by omega)
    omega
theorem zz_lx_7 {od : Nat → Int32} {wt : Nat} {P : Nat → Prop} (h : zz_or od wt P) (hw : wt ≤ 7) : zz_lx od wt < 35831808 := Nat.lt_of_lt_of_le (zz_lx_b h wt (Nat.le_refl _)) (Nat.le_trans (Nat.pow_le_pow_right (n := 12) (by decide) hw) (by decide))
/-- what the fields of the order lack -/
def zz_cv (lk od : Nat → Int32) : Nat → Int32 := fun k => lk (Int32.toNatClampNeg (od k))
def zz_tl (f : Nat → Int32) : Nat → Nat
  | 0 => 0
  | k + 1 => zz_tl f k + (f k).toInt.toNat
theorem zz_tl_eq {f g : Nat → Int32} : ∀ n : Nat, (∀ k : Nat, k < n → g k = f k) → zz_tl g n = zz_tl f n
  | 0, _ => rfl
  | n + 1, h => by rw [zz_tl, zz_tl, zz_tl_eq n (fun k hk => h k (by omega)), h n (by omega)]
theorem zz_cn_eq {f g : Nat → Int32} : ∀ n : Nat, (∀ k : Nat, k < n → g k = f k) → zz_cn g n = zz_cn f n
  | 0, _ => rfl
  | n + 1, h => by rw [zz_cn, zz_cn, zz_cn_eq n (fun k hk => h k (by omega)), h n (by omega)]
theorem zz_tl_upd {g : Nat → Int32} {q : Nat} {v : Int32} : ∀ n : Nat, q < n → zz_tl (upd g q v) n + (g q).toInt.toNat = zz_tl g n + v.toInt.toNat
  | 0, h => absurd h (by omega)
  | n + 1, h => by
    rw [zz_tl, zz_tl]
    by_cases e : n = q
    · subst e
      rw [zz_tl_eq (f := g) (g := upd g n v) n (fun k hk => by simp only [upd, if_neg (show ¬ k = n by omega)])]
      simp only [upd, if_pos]; omega
    · have u : upd g q v n = g n := by simp only [upd, if_neg e]
      rw [u]
      have := zz_tl_upd (g := g) (q := q) (v := v) n (by omega)
      omega
theorem zz_tl_b {f : Nat → Int32} : ∀ n : Nat, (∀ k : Nat, k < n → (f k).toInt ≤ 60) → zz_tl f n ≤ 60 * n
  | 0, _ => Nat.le_refl _
  | n + 1, h => by
    rw [zz_tl]
    have := zz_tl_b n (fun k hk => h k (by omega))
    have := h n (by omega)
    omega
theorem zz_cv_upd {lk od : Nat → Int32} {wt i q : Nat} {P : Nat → Prop} {v : Int32} (h : zz_or od wt P) (hi : i < wt) (hq : q < 12) (e : od i = nI q) : ∀ k : Nat, k < wt → zz_cv (upd lk (Int32.toNatClampNeg (nI q)) v) od k = upd (zz_cv lk od) i v k := by
  intro k hk
  obtain ⟨r, _, hr, er⟩ := h.1 k hk
  by_cases ek : k = i
  · subst ek
    simp only [zz_cv, upd, e, if_pos]
  · have hne : ¬ r = q := fun z => ek (h.2 k i hk hi (by rw [er, e, z]))
    simp only [zz_cv, upd, if_neg ek]
    rw [er, zz_cl (show r < 2147483648 by omega), zz_cl (show q < 2147483648 by omega), if_neg hne]
/-- the state of a run through the days -/
def zz_lo (lk od : Nat → Int32) (wt op : Nat) : Prop := (∀ k : Nat, k < wt → 0 ≤ (zz_cv lk od k).toInt ∧ (zz_cv lk od k).toInt ≤ 60) ∧ op = zz_cn (zz_cv lk od) wt
theorem zz_cv_at {lk od : Nat → Int32} {i q : Nat} (hq : q < 12) (e : od i = nI q) : zz_cv lk od i = lk q := by
  unfold zz_cv; rw [e, zz_cl (by omega)]
theorem zz_lo_step {lk od : Nat → Int32} {wt op i q : Nat} {P : Nat → Prop} {x : Int32} (h : zz_or od wt P) (hl : zz_lo lk od wt op) (hi : i < wt) (hq : q < 12) (e : od i = nI q) (h0 : ¬ lk q = 0) (hx : 0 ≤ x.toInt ∧ x.toInt ≤ (lk q).toInt) :
    zz_tl (zz_cv (upd lk (Int32.toNatClampNeg (nI q)) (lk q - x)) od) wt + x.toInt.toNat = zz_tl (zz_cv lk od) wt ∧ 1 ≤ op ∧ ((upd lk (Int32.toNatClampNeg (nI q)) (lk q - x)) q = 0 → zz_lo (upd lk (Int32.toNatClampNeg (nI q)) (lk q - x)) od wt (op - 1)) ∧ (¬ (upd lk (Int32.toNatClampNeg (nI q)) (lk q - x)) q = 0 → zz_lo (upd lk (Int32.toNatClampNeg (nI q)) (lk q - x)) od wt op) := by
  have ec := zz_cv_at (lk := lk) hq e
  have r := hl.1 i hi
  rw [ec] at r
  have ex : (lk q - x).toInt = (lk q).toInt - x.toInt := by
    rw [Int32.toInt_sub]
    rw [Int.bmod_eq_of_le] <;> omega
  have cu := zz_cv_upd (lk := lk) (v := lk q - x) h hi hq e
  have k1 := zz_tl_upd (g := zz_cv lk od) (q := i) (v := lk q - x) wt hi
  have k2 := zz_cn_upd (g := zz_cv lk od) (q := i) (v := lk q - x) wt hi
  rw [ec] at k1 k2
  rw [if_neg h0] at k2
  have u : (upd lk (Int32.toNatClampNeg (nI q)) (lk q - x)) q = lk q - x := by rw [zz_cl (by omega)]; simp only [upd, if_pos]
  have b : ∀ k : Nat, k < wt → 0 ≤ (zz_cv (upd lk (Int32.toNatClampNeg (nI q)) (lk q - x)) od k).toInt ∧ (zz_cv (upd lk (Int32.toNatClampNeg (nI q)) (lk q - x)) od k).toInt ≤ 60 := by
    intro k hk
    rw [cu k hk]
    by_cases ek : k = i
    · simp only [upd, if_pos ek]; omega
    · simp only [upd, if_neg ek]; exact hl.1 k hk
  have op1 : 1 ≤ op := by
    rw [hl.2]
    exact zz_cn_pos (by rw [ec]; exact h0) wt hi
  refine ⟨?_, op1, fun z => ⟨b, ?_⟩, fun z => ⟨b, ?_⟩⟩
  · rw [zz_tl_eq wt cu]; omega
  · rw [u] at z
    rw [zz_cn_eq wt cu, hl.2]
    rw [if_pos z] at k2
    omega
  · rw [u] at z
    rw [zz_cn_eq wt cu, hl.2]
    rw [if_neg z] at k2
    omega
/-- within a day: something was done, or nothing could be done so far -/
def zz_pr (lk l0 od re : Nat → Int32) (wt dy i : Nat) (y h0 : Int32) : Prop := zz_tl (zz_cv lk od) wt < zz_tl (zz_cv l0 od) wt ∨ (y = h0 ∧ lk = l0 ∧ ∀ k : Nat, k < i → zz_cv l0 od k = 0 ∨ (dy : Int) < (zz_cv re od k).toInt)
theorem zz_pr_no {lk l0 od re : Nat → Int32} {wt dy i q : Nat} {y h0 : Int32} (h : zz_pr lk l0 od re wt dy i y h0) (hq : q < 12) (e : od i = nI q) (hn : lk q = 0 ∨ (dy : Int) < (re q).toInt) : zz_pr lk l0 od re wt dy (i + 1) y h0 := by
  rcases h with h | ⟨a, b, c⟩
  · exact Or.inl h
  · refine Or.inr ⟨a, b, fun k hk => ?_⟩
    by_cases ek : k = i
    · subst ek
      rw [zz_cv_at (lk := l0) hq e, zz_cv_at (lk := re) hq e, ← b]; exact hn
    · exact c k (by omega)
theorem zz_pr_end {lk l0 od re : Nat → Int32} {wt dy op : Nat} {y h0 : Int32} (h : zz_pr lk l0 od re wt dy wt y h0) (ho : zz_lo l0 od wt op) (hop : 1 ≤ op) (hd : 400 ≤ dy) (hr : ∀ k : Nat, k < wt → (zz_cv re od k).toInt ≤ 400) : zz_tl (zz_cv lk od) wt < zz_tl (zz_cv l0 od) wt := by
  rcases h with h | ⟨a, b, c⟩
  · exact h
  · have z : ∀ n : Nat, n ≤ wt → zz_cn (zz_cv l0 od) n = 0 := by
      intro n
      induction n with
      | zero => intro _; rfl
      | succ n ih =>
        intro hn
        rw [zz_cn, ih (by omega)]
        rcases c n (by omega) with c1 | c1
        · rw [if_pos c1]
        · have := hr n (by omega); omega
    have := z wt (Nat.le_refl _)
    have := ho.2
    omega
/-- how many of the first j fields wait -/
def zz_ct (dn : Nat → Int32) : Nat → Nat
  | 0 => 0
  | k + 1 => zz_ct dn k + (if (dn k).toInt < 0 then 1 else 0)
theorem zz_ct_mono {dn : Nat → Int32} {j : Nat} : ∀ n : Nat, j ≤ n → zz_ct dn j ≤ zz_ct dn n
  | 0, h => by rw [show j = 0 from by omega]; exact Nat.le_refl _
  | n + 1, h => by
    by_cases e : j = n + 1
    · rw [e]; exact Nat.le_refl _
    · rw [zz_ct]; have := zz_ct_mono (dn := dn) n (show j ≤ n by omega); omega
theorem zz_ct_b {dn : Nat → Int32} : ∀ n : Nat, zz_ct dn n ≤ n
  | 0 => Nat.le_refl _
  | n + 1 => by rw [zz_ct]; have := zz_ct_b (dn := dn) n; split <;> omega
/-- filling the order: its fields lie below j -/
def zz_fo (od dn nee : Nat → Int32) (wt j mf : Nat) : Prop := wt = zz_ct dn j ∧ zz_or od wt (fun q => q < mf ∧ 1 ≤ (nee q).toInt) ∧ ∀ i : Nat, i < wt → (od i).toInt < (j : Int)
theorem zz_fo_0 {od dn nee : Nat → Int32} {mf : Nat} : zz_fo od dn nee 0 0 mf := ⟨rfl, ⟨fun i h => absurd h (by omega), fun i j h => absurd h (by omega)⟩, fun i h => absurd h (by omega)⟩
theorem zz_fo_no {od dn nee : Nat → Int32} {wt j mf : Nat} (h : zz_fo od dn nee wt j mf) (hd : ¬ (dn j).toInt < 0) : zz_fo od dn nee wt (j + 1) mf := by
  refine ⟨?_, h.2.1, fun i hi => ?_⟩
  · rw [zz_ct, if_neg hd]; exact h.1
  · have := h.2.2 i hi; omega
theorem zz_fo_yes {od dn nee : Nat → Int32} {wt j mf : Nat} (h : zz_fo od dn nee wt j mf) (hd : (dn j).toInt < 0) (hj : j < mf) (hm : mf ≤ 12) (hw : wt < 7) (hn : zz_dn dn nee mf) : zz_fo (upd od (Int32.toNatClampNeg (nI wt)) (nI j)) dn nee (wt + 1) (j + 1) mf := by
  rw [zz_cl (by omega)]
  refine ⟨?_, ⟨fun i hi => ?_, fun a b ha hb e => ?_⟩, fun i hi => ?_⟩
  · rw [zz_ct, if_pos hd, h.1]
  · by_cases e : i = wt
    · simp only [upd, if_pos e]; exact ⟨j, ⟨hj, hn j hj hd⟩, by omega, rfl⟩
    · simp only [upd, if_neg e]; exact h.2.1.1 i (by omega)
  · have tj := zz_toInt j (by omega)
    by_cases ea : a = wt <;> by_cases eb : b = wt
    · omega
    · simp only [upd, if_pos ea, if_neg eb] at e
      have := h.2.2 b (by omega)
      rw [← e, tj] at this; omega
    · simp only [upd, if_neg ea, if_pos eb] at e
      have := h.2.2 a (by omega)
      rw [e, tj] at this; omega
    · simp only [upd, if_neg ea, if_neg eb] at e
      exact h.2.1.2 a b (by omega) (by omega) e
  · by_cases e : i = wt
    · simp only [upd, if_pos e]
      rw [zz_toInt j (by omega)]; omega
    · simp only [upd, if_neg e]
      have := h.2.2 i (by omega); omega
theorem zz_fo_lt {od dn nee : Nat → Int32} {wt j mf : Nat} (h : zz_fo od dn nee wt j mf) (hd : (dn j).toInt < 0) (hj : j < mf) (h7 : zz_ct dn mf ≤ 7) : wt < 7 := by
  have a := zz_ct_mono (dn := dn) (j := j + 1) mf (by omega)
  rw [zz_ct, if_pos hd] at a
  have := h.1
  omega
theorem zz_pred2 {c : Nat} (h : c < 2147483648) : (nI c - 2).toInt = (c : Int) - 2 := by
  rw [Int32.toInt_sub, zz_toInt c h, show (2 : Int32).toInt = 2 from by decide]
  rw [Int.bmod_eq_of_le] <;> omega
theorem zz_pred2N {k : Nat} (h : 2 ≤ k) (hk : k < 2147483648) : nI k - 2 = nI (k - 2) := by
  rw [← Int32.toInt_inj, zz_pred2 hk, zz_toInt _ (by omega)]; omega
theorem zz_iw2 {k : Nat} (h : 1 ≤ k) (hk : k < 2147483648) : (nI k - 2) + Int32.ofInt (-1) = nI (k - 1) - 2 := by
  rw [← Int32.toInt_inj, Int32.toInt_add, zz_pred2 hk, zz_pred2 (by omega), show (Int32.ofInt (-1)).toInt = -1 from by decide]
  rw [Int.bmod_eq_of_le] <;> omega
theorem zz_or_ne {od : Nat → Int32} {wt a b : Nat} {P : Nat → Prop} (h : zz_or od wt P) (ha : a < wt) (hb : b < wt) (hab : ¬ a = b) (hle : (od a).toInt ≤ (od b).toInt) : (od a).toInt < (od b).toInt := by
  rcases Int.lt_or_le (od a).toInt (od b).toInt with z | z
  · exact z
  · exact absurd (h.2 a b ha hb (Int32.toInt_inj.mp (by omega))) hab
/-- the run's first filling -/
theorem zz_fill {lk nee od : Nat → Int32} {i q : Nat} (hq : q < 12) (e : od i = nI q) (h : ∀ k : Nat, k < i → zz_cv lk od k = zz_cv nee od k) : ∀ k : Nat, k < i + 1 → zz_cv (upd lk (Int32.toNatClampNeg (nI q)) (nee q)) od k = zz_cv nee od k := by
  intro k hk
  rw [zz_cl (by omega)]
  unfold zz_cv
  by_cases ek : Int32.toNatClampNeg (od k) = q
  · simp only [upd, ek, if_pos]
  · simp only [upd, if_neg ek]
    by_cases e2 : k = i
    · subst e2; rw [e, zz_cl (by omega)] at ek; exact absurd rfl ek
    · exact h k (by omega)
theorem zz_fill_lo {lk nee od : Nat → Int32} {wt i mf : Nat} (hm : mf ≤ 12) (h : zz_or od wt (fun q => q < mf ∧ 1 ≤ (nee q).toInt)) (hi : i = wt) (hf : ∀ k : Nat, k < i → zz_cv lk od k = zz_cv nee od k) (hn : zz_rg nee mf 0 60) : zz_lo lk od wt wt := by
  subst hi
  have v : ∀ k : Nat, k < i → 1 ≤ (zz_cv lk od k).toInt ∧ (zz_cv lk od k).toInt ≤ 60 := by
    intro k hk
    obtain ⟨q, hq, hq2, e⟩ := h.1 k hk
    rw [hf k hk, zz_cv_at hq2 e]
    exact ⟨hq.2, (hn q hq.1).2⟩
  refine ⟨fun k hk => by have := v k hk; omega, ?_⟩
  have z : ∀ n : Nat, n ≤ i → zz_cn (zz_cv lk od) n = n := by
    intro n
    induction n with
    | zero => intro _; rfl
    | succ n ih =>
      intro hn
      rw [zz_cn, ih (by omega), if_neg (fun z => by have := v n (by omega); rw [z, show (0 : Int32).toInt = 0 from by decide] at this; omega)]
  exact (z i (Nat.le_refl _)).symm
