theorem zz_cn0 {f : Nat → Int32} : ∀ n : Nat, zz_cn f n = 0 → ∀ k : Nat, k < n → f k = 0
  | 0, _, k, hk => absurd hk (Nat.not_lt_zero _)
  | n + 1, h, k, hk => by
    rw [zz_cn] at h
    by_cases e : k = n
    · subst e
      by_cases z : f k = 0
      · exact z
      · rw [if_neg z] at h; omega
    · exact zz_cn0 n (by omega) k (by omega)
def zz_P (od : Nat → Int32) : Nat → Nat := fun k => Int32.toNatClampNeg (od k)
def zz_lv (lk od : Nat → Int32) : Nat → Nat := fun k => (zz_cv lk od k).toInt.toNat
def zz_stf (mc : Nat) (re : Nat → Int32) : Nat → Nat := fun q => if mc < (re q).toInt.toNat then (re q).toInt.toNat else mc
def zz_ndf (nee : Nat → Int32) : Nat → Nat := fun q => (nee q).toInt.toNat
def zz_lsf (lo va re : Nat → Int32) : Nat → Nat → Int := fun q d => (va q - zz_pc lo (va q) (nI d - re q)).toInt
theorem zz_stf_le {mc d q : Nat} {re : Nat → Int32} (hd : mc ≤ d) (hr : 0 ≤ (re q).toInt) : zz_stf mc re q ≤ d ↔ (re q).toInt ≤ (d : Int) := by
  unfold zz_stf
  split <;> omega
theorem zz_stf_ge {mc q : Nat} {re : Nat → Int32} : mc ≤ zz_stf mc re q := by
  unfold zz_stf
  split <;> omega
theorem zz_k9i (x : Int32) : Int32.toNatClampNeg (if 9 < x then 9 else x) < 10 := by
  have e9 : (9 : Int32).toInt = 9 := by decide
  show (if 9 < x then 9 else x).toInt.toNat < 10
  by_cases c : (9 : Int32) < x
  · rw [if_pos c, e9]; decide
  · rw [if_neg c]; rw [Int32.lt_iff_toInt_lt, e9] at c; omega
theorem zz_pcb {lo : Nat → Int32} {v x : Int32} (hl : zz_rg lo 10 0 100) (hv : 0 ≤ v.toInt ∧ v.toInt ≤ 10000) : 0 ≤ (zz_pc lo v x).toInt ∧ (zz_pc lo v x).toInt ≤ v.toInt := by
  have L := hl _ (zz_k9i x)
  unfold zz_pc
  generalize lo (Int32.toNatClampNeg (if 9 < x then 9 else x)) = l at L ⊢
  have e1 : (100 : Int32).toInt = 100 := by decide
  have es : (100 - l).toInt = 100 - l.toInt := by rw [zz_subI L.1 (by rw [e1]; omega), e1]
  have p0 := Int.mul_nonneg hv.1 (show 0 ≤ 100 - l.toInt by omega)
  have p1 : v.toInt * (100 - l.toInt) ≤ v.toInt * 100 := Int.mul_le_mul_of_nonneg_left (by omega) hv.1
  have em : (v * (100 - l)).toInt = v.toInt * (100 - l.toInt) := by
    rw [Int32.toInt_mul, es]
    rw [Int.bmod_eq_of_le] <;> omega
  rw [Int32.toInt_div_of_ne_right _ _ (by decide), em, e1, Int.tdiv_eq_ediv_of_nonneg p0]
  omega
theorem zz_lsb {lo va re : Nat → Int32} {mf q : Nat} (hl : zz_rg lo 10 0 100) (hv : zz_rg va mf 0 10000) (hq : q < mf) (d : Nat) : 0 ≤ zz_lsf lo va re q d ∧ zz_lsf lo va re q d ≤ 10000 := by
  have b := zz_pcb (x := nI d - re q) hl (hv q hq)
  have v := hv q hq
  unfold zz_lsf
  rw [zz_subI b.1 b.2]
  omega
theorem zz_P_e {od : Nat → Int32} {k q : Nat} (hq : q < 12) (e : od k = nI q) : zz_P od k = q := by
  unfold zz_P
  rw [e, zz_cl (by omega)]
theorem zz_P_i {od : Nat → Int32} {wt : Nat} {R : Nat → Prop} (h : zz_or od wt R) : ∀ a b : Nat, a < wt → b < wt → zz_P od a = zz_P od b → a = b := by
  intro a b ha hb e
  obtain ⟨q, _, hq, eq⟩ := h.1 a ha
  obtain ⟨r, _, hr, er⟩ := h.1 b hb
  rw [zz_P_e hq eq, zz_P_e hr er] at e
  exact h.2 a b ha hb (by rw [eq, er, e])
theorem zz_P_12 {od : Nat → Int32} {wt : Nat} {R : Nat → Prop} (h : zz_or od wt R) : ∀ k : Nat, k < wt → zz_P od k < 12 ∧ R (zz_P od k) ∧ od k = nI (zz_P od k) := by
  intro k hk
  obtain ⟨q, hR, hq, eq⟩ := h.1 k hk
  rw [zz_P_e hq eq]
  exact ⟨hq, hR, eq⟩
theorem zz_lv_fill {lk nee od : Nat → Int32} {wt : Nat} (h : ∀ k : Nat, k < wt → zz_cv lk od k = zz_cv nee od k) : ∀ k : Nat, k < wt → zz_lv lk od k = zz_ndf nee (zz_P od k) := by
  intro k hk
  unfold zz_lv
  rw [h k hk]; rfl
theorem zz_lv_upd {lk od : Nat → Int32} {wt i q : Nat} {R : Nat → Prop} {x : Int32} {n : Nat} (h : zz_or od wt R) (hi : i < wt) (hq : q < 12) (e : od i = nI q) (hl : 0 ≤ (lk q).toInt ∧ (lk q).toInt ≤ 60) (hx : 0 ≤ x.toInt ∧ x.toInt ≤ (lk q).toInt) (hn : n = x.toInt.toNat) : ∀ k : Nat, k < wt → zz_lv (upd lk (Int32.toNatClampNeg (nI q)) (lk q - x)) od k = if k = i then zz_lv lk od i - n else zz_lv lk od k := by
  intro k hk
  unfold zz_lv
  rw [zz_cv_upd h hi hq e k hk]
  by_cases z : k = i
  · rw [z, zz_up_s, if_pos rfl, zz_cv_at hq e, zz_subI hx.1 hx.2, hn]; omega
  · rw [zz_up_n z, if_neg z]
theorem zz_sdn_b {ls : Nat → Nat → Int} {st nd : Nat → Nat} {h t0 : Nat} {l P : Nat → Nat} : ∀ n : Nat, (∀ k : Nat, k < n → ∀ d : Nat, 0 ≤ ls (P k) d ∧ ls (P k) d ≤ 10000) → 0 ≤ zz_sdn ls st nd h t0 l P n ∧ zz_sdn ls st nd h t0 l P n ≤ 10000 * (n : Int)
  | 0, _ => by rw [zz_sdn]; omega
  | n + 1, hb => by
    have a := zz_sdn_b (st := st) (nd := nd) (h := h) (t0 := t0) (l := l) n (fun k hk => hb k (by omega))
    have b := hb n (by omega) (zz_DD (zz_pf P (n + 1)) st nd h t0 (P n))
    rw [zz_sdn]
    split <;> omega
/-- where the reference's run through the days stands -/
def zz_rs (lo va re nee od lk : Nat → Int32) (mc h wt t : Nat) (s : Int32) : Prop := (∀ i : Nat, i ≤ wt → zz_bl (zz_lv lk od) (zz_P od) (zz_stf mc re) (mc + t) i = zz_Wb (zz_pf (zz_P od) i) (zz_stf mc re) (zz_ndf nee) h mc t) ∧ zz_al (zz_lv lk od) (zz_P od) (zz_stf mc re) (zz_ndf nee) h mc wt t ∧ (∀ k : Nat, k < wt → mc + t ≤ zz_stf mc re (zz_P od k) → zz_lv lk od k = zz_ndf nee (zz_P od k)) ∧ s.toInt = zz_sdn (zz_lsf lo va re) (zz_stf mc re) (zz_ndf nee) h mc (zz_lv lk od) (zz_P od) wt
def zz_ri2 (lo va re nee od lk l0 : Nat → Int32) (mc h wt t i : Nat) (y s : Int32) : Prop := zz_inD (zz_lv lk od) (zz_lv l0 od) (zz_P od) (zz_stf mc re) (zz_ndf nee) h mc wt t i y.toInt.toNat ∧ (∀ k : Nat, k < wt → zz_lv lk od k ≤ zz_lv l0 od k) ∧ s.toInt = zz_sdn (zz_lsf lo va re) (zz_stf mc re) (zz_ndf nee) h mc (zz_lv lk od) (zz_P od) wt
theorem zz_rs_0 {lo va re nee od lk : Nat → Int32} {mc h wt : Nat} {R : Nat → Prop} (hor : zz_or od wt R) (hR : ∀ q : Nat, R q → 1 ≤ (nee q).toInt) (hf : ∀ k : Nat, k < wt → zz_cv lk od k = zz_cv nee od k) : zz_rs lo va re nee od lk mc h wt 0 0 := by
  have lf := zz_lv_fill hf
  refine ⟨fun i hi => ?_, fun k hk h1 e h2 h3 => absurd h3 (by have := zz_stf_ge (mc := mc) (re := re) (q := zz_P od k); omega), fun k hk _ => lf k hk, ?_⟩
  · rw [zz_bl_cg (l2 := fun k => zz_ndf nee (zz_P od k)) i (fun k hk => lf k (by omega))]
    exact zz_sd0 (zz_P_i hor) (fun k hk => (zz_P_12 hor k hk).1) (fun k hk => zz_stf_ge) i hi
  · rw [zz_sdn_0 wt (fun k hk => ?_)]
    · decide
    · rw [lf k hk]
      have := hR _ (zz_P_12 hor k hk).2.1
      unfold zz_ndf; omega
theorem zz_rs_in {lo va re nee od lk : Nat → Int32} {mc h wt t : Nat} {s y : Int32} (H : zz_rs lo va re nee od lk mc h wt t s) (hy : h = y.toInt.toNat) : zz_ri2 lo va re nee od lk lk mc h wt t 0 y s := by
  refine ⟨?_, fun k _ => Nat.le_refl _, H.2.2.2⟩
  have := zz_inD_0 (m := wt) H.1
  rw [← hy]; exact this
theorem zz_rs_out {lo va re nee od lk l0 : Nat → Int32} {mc h wt t i : Nat} {s s0 y : Int32} {R : Nat → Prop} (hor : zz_or od wt R) (H : zz_rs lo va re nee od l0 mc h wt t s0) (G : zz_ri2 lo va re nee od lk l0 mc h wt t i y s) (hi : i = wt) : zz_rs lo va re nee od lk mc h wt (t + 1) s := by
  subst hi
  have he := G.1.1
  have hn : ∀ k : Nat, k < i → mc + t < zz_stf mc re (zz_P od k) → zz_lv lk od k = zz_ndf nee (zz_P od k) := fun k hk hd => (G.1.2.2.1 k hk hd).trans (H.2.2.1 k hk (by omega))
  exact ⟨zz_sds (zz_P_i hor) (fun k hk => (zz_P_12 hor k hk).1) he hn, zz_al_next he H.2.1 G.2.1, fun k hk hd => hn k hk (by omega), G.2.2⟩
theorem zz_ri_no {lo va re nee od lk l0 : Nat → Int32} {mc h wt t i q : Nat} {s s0 y : Int32} (H : zz_rs lo va re nee od l0 mc h wt t s0) (G : zz_ri2 lo va re nee od lk l0 mc h wt t i y s) (hi : i < wt) (hq : q < 12) (e : od i = nI q) (hr : 0 ≤ (re q).toInt) (hn : lk q = 0 ∨ ¬ (re q).toInt ≤ ((mc + t : Nat) : Int)) : zz_ri2 lo va re nee od lk l0 mc h wt t (i + 1) y s := by
  refine ⟨zz_inD_no H.1 hi G.1 ?_, G.2⟩
  rcases hn with z | z
  · left; unfold zz_lv; rw [zz_cv_at hq e, z]; decide
  · right
    rw [zz_P_e hq e]
    have := (zz_stf_le (mc := mc) (d := mc + t) (re := re) (q := q) (by omega) hr)
    omega
theorem zz_ri_go {lo va re nee od lk l0 : Nat → Int32} {mc h wt t i q mf dy : Nat} {s s0 s2 y x : Int32} {R : Nat → Prop} (hor : zz_or od wt R) (hRm : ∀ q : Nat, R q → q < mf) (hwt : wt ≤ 7) (hl : zz_rg lo 10 0 100) (hv : zz_rg va mf 0 10000) (H : zz_rs lo va re nee od l0 mc h wt t s0) (G : zz_ri2 lo va re nee od lk l0 mc h wt t i y s) (hi : i < wt) (hq : q < 12) (e : od i = nI q) (hr : 0 ≤ (re q).toInt ∧ (re q).toInt ≤ ((mc + t : Nat) : Int)) (hlk : 1 ≤ (lk q).toInt ∧ (lk q).toInt ≤ 60) (hy : 0 ≤ y.toInt ∧ y.toInt ≤ 99) (hx : x = if lk q < y then lk q else y) (hs : s2 = if lk q - x = 0 then s + (va q - zz_pc lo (va q) (nI dy - re q)) else s) (hdy : dy = mc + t) : zz_ri2 lo va re nee od (upd lk (Int32.toNatClampNeg (nI q)) (lk q - x)) l0 mc h wt t (i + 1) (y - x) s2 := by
  subst hdy
  have hP := zz_P_e hq e
  have xr : 0 ≤ x.toInt ∧ x.toInt ≤ (lk q).toInt ∧ x.toInt ≤ y.toInt ∧ (x.toInt = (lk q).toInt ∨ x.toInt = y.toInt) := by
    rw [hx]
    by_cases c : lk q < y
    · rw [if_pos c]; rw [Int32.lt_iff_toInt_lt] at c; omega
    · rw [if_neg c]; rw [Int32.lt_iff_toInt_lt] at c; omega
  have li : zz_lv lk od i = (lk q).toInt.toNat := by unfold zz_lv; rw [zz_cv_at hq e]
  have hl2 := zz_lv_upd (n := x.toInt.toNat) hor hi hq e (by omega) ⟨xr.1, xr.2.1⟩ rfl
  have hst : zz_stf mc re (zz_P od i) ≤ mc + t := by rw [hP]; exact (zz_stf_le (by omega) hr.1).mpr hr.2
  have hn : x.toInt.toNat = if zz_lv lk od i < y.toInt.toNat then zz_lv lk od i else y.toInt.toNat := by
    rw [li, hx]
    by_cases c : lk q < y
    · rw [if_pos c]; rw [Int32.lt_iff_toInt_lt] at c; rw [if_pos (by omega)]
    · rw [if_neg c]; rw [Int32.lt_iff_toInt_lt] at c; rw [if_neg (by omega)]
  obtain ⟨g1, g2⟩ := zz_inD_go H.1 hi G.1 hst hn hl2
  have ey : (y - x).toInt.toNat = y.toInt.toNat - x.toInt.toNat := by rw [zz_subI xr.1 xr.2.2.1]; omega
  refine ⟨by rw [ey]; exact g1, fun k hk => ?_, ?_⟩
  · rw [hl2 k hk]
    have := G.2.1 k hk
    by_cases z : k = i
    · rw [if_pos z]; rw [z] at this ⊢; omega
    · rw [if_neg z]; exact this
  · have l2i := hl2 i hi
    rw [if_pos rfl] at l2i
    have ez : lk q - x = 0 ↔ zz_lv lk od i - x.toInt.toNat = 0 := by
      rw [← Int32.toInt_inj, zz_subI xr.1 xr.2.1, show (0 : Int32).toInt = 0 from by decide, li]; omega
    by_cases z : lk q - x = 0
    · rw [hs, if_pos z]
      have w0 := g2 (ez.mp z) (by rw [li]; omega)
      have l0i : 1 ≤ zz_lv l0 od i := by have := G.2.1 i hi; omega
      have dd := zz_Dd_of H.2.1 hi l0i hst w0
      have one := (zz_sdn_one (ls := zz_lsf lo va re) (st := zz_stf mc re) (nd := zz_ndf nee) (h := h) (t0 := mc) (P := zz_P od) (i := i) (l := zz_lv lk od) (l2 := zz_lv (upd lk (Int32.toNatClampNeg (nI q)) (lk q - x)) od) (by rw [li]; omega) (by rw [l2i]; exact ez.mp z) wt (fun k hk hne => by rw [hl2 k hk, if_neg hne])).2 hi
      rw [one, zz_DD_eq dd, ← G.2.2, hP]
      have b := zz_lsb (re := re) hl hv (hRm q (by rw [← hP]; exact (zz_P_12 hor i hi).2.1)) (mc + t)
      have sb := zz_sdn_b (st := zz_stf mc re) (nd := zz_ndf nee) (h := h) (t0 := mc) (l := zz_lv lk od) (P := zz_P od) (ls := zz_lsf lo va re) wt (fun k hk d => zz_lsb hl hv (hRm _ (zz_P_12 hor k hk).2.1) d)
      rw [← G.2.2] at sb
      unfold zz_lsf at b ⊢
      rw [Int32.toInt_add, Int.bmod_eq_of_le (by omega) (by omega)]
    · rw [hs, if_neg z, G.2.2]
      refine zz_sdn_cg wt (fun k hk => ?_)
      rw [hl2 k hk]
      by_cases q : k = i
      · rw [if_pos q, q]
        exact ⟨fun w => absurd w (by rw [li]; omega), fun w => absurd (ez.mpr w) z⟩
      · rw [if_neg q]
theorem zz_rs_end {lo va re nee od lk : Nat → Int32} {mc h wt t op : Nat} {s : Int32} (H : zz_rs lo va re nee od lk mc h wt t s) (hl : zz_lo lk od wt op) (ho : op = 0) : s.toInt = zz_cst (zz_lsf lo va re) (zz_stf mc re) (zz_ndf nee) h mc (zz_P od) wt := by
  rw [H.2.2.2]
  refine zz_sdn_all wt (fun k hk => ?_)
  unfold zz_lv
  rw [zz_cn0 (f := zz_cv lk od) wt (by rw [← hl.2, ho]) k hk]; decide
