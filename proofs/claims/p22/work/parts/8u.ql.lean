theorem zz_or_t {r j : Nat} : (r ||| 2 ^ j).testBit j = true := by rw [zz_or_b]; simp
theorem zz_or_eq {r j : Nat} (h : r ||| 2 ^ j = r) : r.testBit j = true := by rw [← h]; exact zz_or_t
theorem zz_or_ne7 {r j : Nat} (h : ¬ r ||| 2 ^ j = r) : r.testBit j = false := by
  cases w : r.testBit j with
  | false => rfl
  | true => exact absurd (zz_or_s w) h
theorem zz_mx1 {x : Int32} (h : 1 ≤ x.toInt) : (if 1 < x then x else 1) = x := by
  by_cases c : (1 : Int32) < x
  · rw [if_pos c]
  · rw [if_neg c]
    rw [Int32.lt_iff_toInt_lt, show (1 : Int32).toInt = 1 from by decide] at c
    rw [← Int32.toInt_inj, show (1 : Int32).toInt = 1 from by decide]; omega
theorem zz_mxS {nt i : Nat} {re : Nat → Int32} (h : nt ≤ 400) (hr : 0 ≤ (re i).toInt) : (if nI nt < re i then re i else nI nt).toInt = (zz_stf nt re i : Int) := by
  have e := zz_toInt nt (by omega)
  unfold zz_stf
  by_cases c : nI nt < re i
  · rw [if_pos c]; rw [Int32.lt_iff_toInt_lt, e] at c; rw [if_pos (by omega)]; omega
  · rw [if_neg c]; rw [Int32.lt_iff_toInt_lt, e] at c; rw [if_neg (by omega), e]
theorem zz_shS {f q : Nat → Int32} {k np : Nat} {v : Int} (h : zz_sh f q k np) (h1 : 1 ≤ k) (hlt : v < (f (k - 1)).toInt) (old : ∀ j : Nat, k ≤ j → j < np → v < (q j).toInt) : ∀ j : Nat, k - 1 ≤ j → j < np → v < (q j).toInt := by
  intro j a b
  by_cases e : j = k - 1
  · rw [e, ← h.1 (k - 1) (by omega)]; exact hlt
  · exact old j (by omega) b
theorem zz_tkF {q0 q1 q2 q3 q4 xn xr xv : Nat → Int32} {t0 np : Nat} {XR : Nat → Prop} (T : zz_tk7 q0 q1 q2 q3 q4 xn xr xv t0 np XR) (hxn : ∀ q : Nat, XR q → 1 ≤ (xn q).toInt ∧ (xn q).toInt ≤ 60) (hxr : ∀ q : Nat, XR q → 0 ≤ (xr q).toInt ∧ (xr q).toInt ≤ 400) (ht : t0 ≤ 400) : (∀ a b : Nat, a < np → b < np → zz_P q0 a = zz_P q0 b → a = b) ∧ (∀ a : Nat, a < np → zz_P q0 a < 12) ∧ (∀ a : Nat, a < np → 1 ≤ zz_ndf xn (zz_P q0 a)) ∧ (∀ a : Nat, a < np → t0 ≤ zz_stf t0 xr (zz_P q0 a)) ∧ (∀ a b : Nat, a ≤ b → b < np → zz_stf t0 xr (zz_P q0 a) ≤ zz_stf t0 xr (zz_P q0 b)) ∧ ∀ k : Nat, k < np → (q1 k).toInt = (zz_stf t0 xr (zz_P q0 k) : Int) ∧ zz_stf t0 xr (zz_P q0 k) ≤ 400 ∧ (q2 k).toInt = (zz_ndf xn (zz_P q0 k) : Int) ∧ zz_ndf xn (zz_P q0 k) ≤ 60 := by
  have hR : ∀ a : Nat, a < np → XR (zz_P q0 a) := fun a ha => (zz_P_12 T.1.1 a ha).2.1
  refine ⟨zz_P_i T.1.1, fun a ha => (zz_P_12 T.1.1 a ha).1, fun a ha => ?_, fun a _ => zz_stf_ge, fun a b hab hb => ?_, fun k hk => ?_⟩
  · have := hxn _ (hR a ha); unfold zz_ndf; omega
  · have e := T.2.2 a b hab hb
    rw [(T.2.1 a (by omega)).1, (T.2.1 b hb).1] at e
    omega
  · have n := hxn _ (hR k hk)
    have r := hxr _ (hR k hk)
    refine ⟨(T.2.1 k hk).1, ?_, ?_, ?_⟩
    · exact (zz_stf_le ht r.1).mpr (by omega)
    · rw [(T.2.1 k hk).2.1]; unfold zz_ndf; omega
    · unfold zz_ndf; omega
def zz_ddI (N st nd : Nat → Nat) (h t0 s nl n k : Nat) (dy ud : Int32) : Prop := (0 ≤ dy.toInt ∧ dy.toInt ≤ 400) ∧ (0 ≤ ud.toInt ∧ ud.toInt ≤ 60 * (k : Int)) ∧ zz_dd N st nd h t0 s nl n k dy.toInt.toNat ud.toInt.toNat
theorem zz_ddI_0 {N st nd : Nat → Nat} {h t0 s nl n : Nat} (ht : t0 ≤ 400) (hs : ∀ a : Nat, a < n → t0 ≤ st (N a)) : zz_ddI N st nd h t0 s nl n 0 (nI t0) 0 := by
  have e := zz_toInt t0 (by omega)
  have e0 : (0 : Int32).toInt = 0 := by decide
  refine ⟨by omega, by omega, ?_⟩
  rw [e, e0, show ((t0 : Nat) : Int).toNat = t0 by omega]
  exact zz_dd_0 hs
theorem zz_ddI_no {N st nd : Nat → Nat} {h t0 s nl n k : Nat} {dy ud : Int32} (H : zz_ddI N st nd h t0 s nl n k dy ud) (hb : s.testBit k = false) (hl : s.testBit nl = true) : zz_ddI N st nd h t0 s nl n (k + 1) dy ud := ⟨H.1, by have := H.2.1; omega, zz_dd_no H.2.2 hb hl⟩
theorem zz_rm {hd a dy : Int32} (h1 : 1 ≤ hd.toInt ∧ hd.toInt ≤ 99) (ha : dy.toInt ≤ a.toInt ∧ a.toInt ≤ 400) (hd0 : 0 ≤ dy.toInt) : (hd * (a - dy)).toInt = hd.toInt * (a.toInt - dy.toInt) ∧ 0 ≤ (hd * (a - dy)).toInt ∧ (hd * (a - dy)).toInt ≤ 39600 ∧ (hd * (a - dy)).toInt.toNat = hd.toInt.toNat * (a.toInt.toNat - dy.toInt.toNat) := by
  have es : (a - dy).toInt = a.toInt - dy.toInt := zz_subI hd0 ha.1
  have p0 := Int.mul_nonneg (show 0 ≤ hd.toInt by omega) (show 0 ≤ a.toInt - dy.toInt by omega)
  have p1 : hd.toInt * (a.toInt - dy.toInt) ≤ 99 * (a.toInt - dy.toInt) := Int.mul_le_mul_of_nonneg_right h1.2 (by omega)
  have em : (hd * (a - dy)).toInt = hd.toInt * (a.toInt - dy.toInt) := by
    rw [Int32.toInt_mul, es]
    rw [Int.bmod_eq_of_le] <;> omega
  refine ⟨em, by omega, by omega, ?_⟩
  rw [em]
  obtain ⟨x, hx⟩ : ∃ x : Nat, hd.toInt = (x : Int) := ⟨hd.toInt.toNat, by omega⟩
  obtain ⟨y, hy⟩ : ∃ y : Nat, a.toInt - dy.toInt = (y : Int) := ⟨(a.toInt - dy.toInt).toNat, by omega⟩
  rw [show a.toInt.toNat - dy.toInt.toNat = y by omega, hx, hy]
  rw [← Int.natCast_mul, Int.toNat_natCast, Int.toNat_natCast]
theorem zz_ddI_go {N st nd : Nat → Nat} {t0 s nl n k : Nat} {dy ud hd rm a b : Int32} (h1 : 1 ≤ hd.toInt ∧ hd.toInt ≤ 99) (hi : ∀ a b : Nat, a < n → b < n → N a = N b → a = b) (h12 : ∀ a : Nat, a < n → N a < 12) (hn1 : ∀ a : Nat, a < n → 1 ≤ nd (N a)) (hs : ∀ a : Nat, a < n → t0 ≤ st (N a)) (hso : ∀ a b : Nat, a ≤ b → b < n → st (N a) ≤ st (N b)) (hn7 : n ≤ 7) (H : zz_ddI N st nd hd.toInt.toNat t0 s nl n k dy ud) (hk : k < n) (hb : s.testBit k = true) (ea : a.toInt = (st (N k) : Int)) (la : st (N k) ≤ 400) (eb : b.toInt = (nd (N k) : Int)) (lb : nd (N k) ≤ 60) (erm : rm = hd * (a - dy)) (hr : nl < k → rm.toInt < ud.toInt) : zz_ddI N st nd hd.toInt.toNat t0 s nl n (k + 1) a ((if 0 < (ud - rm) then (ud - rm) else 0) + b) := by
  obtain ⟨d, u, H⟩ := H
  have dk := H.2.2.2.1 k (Nat.le_refl _) hk
  obtain ⟨r1, r2, r3, r4⟩ := zz_rm (hd := hd) (a := a) (dy := dy) h1 (by omega) d.1
  rw [← erm] at r1 r2 r3 r4
  have es : (ud - rm).toInt = ud.toInt - rm.toInt := by
    rw [Int32.toInt_sub]
    rw [Int.bmod_eq_of_le] <;> omega
  have em : (if 0 < (ud - rm) then (ud - rm) else 0).toInt = ((ud.toInt.toNat - rm.toInt.toNat : Nat) : Int) := by
    by_cases c : 0 < ud - rm
    · rw [if_pos c, es]; rw [Int32.lt_iff_toInt_lt, es, show (0 : Int32).toInt = 0 from by decide] at c; omega
    · rw [if_neg c]; rw [Int32.lt_iff_toInt_lt, es, show (0 : Int32).toInt = 0 from by decide] at c
      rw [show (0 : Int32).toInt = 0 from by decide]; omega
  have et : ((if 0 < (ud - rm) then (ud - rm) else 0) + b).toInt = ((ud.toInt.toNat - rm.toInt.toNat + nd (N k) : Nat) : Int) := by
    rw [Int32.toInt_add, em, eb]
    rw [Int.bmod_eq_of_le] <;> omega
  have G := zz_dd_go hi h12 hn1 hs hso H hk hb (fun z => by
    have q := hr z
    have ee : st (N k) - dy.toInt.toNat = a.toInt.toNat - dy.toInt.toNat := by omega
    rw [ee, ← r4]; omega)
  refine ⟨by omega, by omega, ?_⟩
  rw [et, show a.toInt.toNat = st (N k) by omega, Int.toNat_natCast, r4, show a.toInt.toNat = st (N k) by omega]
  exact G
theorem zz_ddI_end {N st nd : Nat → Nat} {t0 s nl n k : Nat} {dy ud hd : Int32} (h1 : 1 ≤ hd.toInt ∧ hd.toInt ≤ 99) (hi : ∀ a b : Nat, a < n → b < n → N a = N b → a = b) (h12 : ∀ a : Nat, a < n → N a < 12) (hs : ∀ a : Nat, a < n → t0 ≤ st (N a)) (hso : ∀ a b : Nat, a ≤ b → b < n → st (N a) ≤ st (N b)) (hn7 : n ≤ 7) (H : zz_ddI N st nd hd.toInt.toNat t0 s nl n k dy ud) (hk : k ≤ n) (hl : nl < k) (hr : k < n → ∃ a : Int32, a.toInt = (st (N k) : Int) ∧ st (N k) ≤ 400 ∧ ud.toInt ≤ (hd * (a - dy)).toInt) : (0 ≤ (dy + (ud - 1) / hd).toInt ∧ (dy + (ud - 1) / hd).toInt ≤ 900) ∧ zz_Dd (zz_bs N s n) st nd hd.toInt.toNat t0 (N nl) (dy + (ud - 1) / hd).toInt.toNat := by
  obtain ⟨d, u, H⟩ := H
  have u1 := (H.2.2.2.2 hl).1
  have e1 : (1 : Int32).toInt = 1 := by decide
  have es : (ud - 1).toInt = ud.toInt - 1 := by rw [zz_subI (by omega) (by omega), e1]
  have eq : ((ud - 1) / hd).toInt = (((ud.toInt.toNat - 1) / hd.toInt.toNat : Nat) : Int) := by
    rw [Int32.toInt_div_of_ne_right _ _ (fun z => by rw [z] at h1; exact absurd h1.1 (by decide)), es, Int.tdiv_eq_ediv_of_nonneg (by omega)]
    obtain ⟨x, hx⟩ : ∃ x : Nat, ud.toInt - 1 = (x : Int) := ⟨(ud.toInt - 1).toNat, by omega⟩
    obtain ⟨y, hy⟩ : ∃ y : Nat, hd.toInt = (y : Int) := ⟨hd.toInt.toNat, by omega⟩
    rw [show ud.toInt.toNat - 1 = x by omega, hx, hy, Int.toNat_natCast, ← Int.natCast_ediv]
  have ql : (ud.toInt.toNat - 1) / hd.toInt.toNat ≤ ud.toInt.toNat - 1 := Nat.div_le_self _ _
  obtain ⟨qt, hqt⟩ : ∃ qt : Nat, qt = (ud.toInt.toNat - 1) / hd.toInt.toNat := ⟨_, rfl⟩
  rw [← hqt] at eq ql
  have et : (dy + (ud - 1) / hd).toInt = ((dy.toInt.toNat + qt : Nat) : Int) := by
    rw [Int32.toInt_add, eq]
    rw [Int.bmod_eq_of_le] <;> omega
  refine ⟨by omega, ?_⟩
  rw [et, Int.toNat_natCast, hqt]
  refine zz_dd_end (by omega) hi h12 hs hso H hk hl (fun z => ?_)
  obtain ⟨a, a1, a2, a3⟩ := hr z
  have dk := H.2.2.2.1 k (Nat.le_refl _) z
  obtain ⟨r1, r2, r3, r4⟩ := zz_rm (hd := hd) (a := a) (dy := dy) h1 (by omega) d.1
  rw [show st (N k) - dy.toInt.toNat = a.toInt.toNat - dy.toInt.toNat by omega, ← r4]
  omega
theorem zz_lsq {lo va re : Nat → Int32} {q : Nat} (hl : zz_rg lo 10 0 100) (hv : 0 ≤ (va q).toInt ∧ (va q).toInt ≤ 10000) (d : Nat) : 0 ≤ zz_lsf lo va re q d ∧ zz_lsf lo va re q d ≤ 10000 := by
  have b := zz_pcb (x := nI d - re q) hl hv
  unfold zz_lsf
  rw [zz_subI b.1 b.2]
  omega
theorem zz_lost_eq {lo xv xr xn q0 q1 q2 q3 q4 LL : Nat → Int32} {t0 np B k h : Nat} {XR : Nat → Prop} {rd : Int32} (T : zz_tk7 q0 q1 q2 q3 q4 xn xr xv t0 np XR) (hl : zz_rg lo 10 0 100) (hxv : ∀ q : Nat, XR q → 0 ≤ (xv q).toInt ∧ (xv q).toInt ≤ 10000) (hk : k < np) (hr : 0 ≤ rd.toInt) (hD : zz_Dd (zz_bs (zz_P q0) (B ||| 2 ^ k) np) (zz_stf t0 xr) (zz_ndf xn) h t0 (zz_P q0 k) rd.toInt.toNat) (hL : 0 ≤ (LL (B ||| 2 ^ k)).toInt ∧ (LL (B ||| 2 ^ k)).toInt ≤ 1270000) : ((q4 k - zz_pc lo (q4 k) (rd - q3 k)) + LL (B ||| 2 ^ k)).toInt = zz_ck (zz_P q0) (zz_lsf lo xv xr) (zz_stf t0 xr) (zz_ndf xn) h t0 np B k + (LL (B ||| 2 ^ k)).toInt := by
  have v := hxv _ (zz_P_12 T.1.1 k hk).2.1
  obtain ⟨_, _, e3, e4⟩ := T.2.1 k hk
  unfold zz_ck
  rw [zz_DD_eq hD]
  have b := zz_lsq (re := xr) hl v rd.toInt.toNat
  have en : nI rd.toInt.toNat = rd := (zz_back hr).symm
  unfold zz_lsf at b ⊢
  rw [en] at b ⊢
  rw [e3, e4, Int32.toInt_add, Int.bmod_eq_of_le (by omega) (by omega)]
theorem zz_nmle {q0 : Nat → Int32} {yb : Int32} {k z : Nat} (h : (q0 k).toInt ≤ (q0 (Int32.toNatClampNeg yb)).toInt) (e : yb = nI z) (hz : z < 7) : zz_P q0 k ≤ zz_P q0 z := by
  rw [e, zz_cl (by omega)] at h
  show (q0 k).toInt.toNat ≤ (q0 z).toInt.toNat
  omega
theorem zz_nmge {q0 : Nat → Int32} {yb : Int32} {k z : Nat} (h : (q0 (Int32.toNatClampNeg yb)).toInt ≤ (q0 k).toInt) (e : yb = nI z) (hz : z < 7) : zz_P q0 z ≤ zz_P q0 k := by
  rw [e, zz_cl (by omega)] at h
  show (q0 z).toInt.toNat ≤ (q0 k).toInt.toNat
  omega
/-- how many of the first j fields lack hands -/
def zz_ctp (f : Nat → Int32) : Nat → Nat
  | 0 => 0
  | k + 1 => zz_ctp f k + (if 1 ≤ (f k).toInt then 1 else 0)
theorem zz_ctp_b {f : Nat → Int32} : ∀ n : Nat, zz_ctp f n ≤ n
  | 0 => Nat.le_refl _
  | n + 1 => by rw [zz_ctp]; have := zz_ctp_b (f := f) n; split <;> omega
theorem zz_ctp_mono {f : Nat → Int32} {j : Nat} : ∀ n : Nat, j ≤ n → zz_ctp f j ≤ zz_ctp f n
  | 0, h => by rw [show j = 0 from by omega]; exact Nat.le_refl _
  | n + 1, h => by
    by_cases e : j = n + 1
    · rw [e]; exact Nat.le_refl _
    · rw [zz_ctp]; have := zz_ctp_mono (f := f) n (show j ≤ n by omega); omega
theorem zz_ctp_lt {f : Nat → Int32} {j n : Nat} (h : 1 ≤ (f j).toInt) (hj : j < n) (h7 : zz_ctp f n ≤ 7) : zz_ctp f j < 7 := by
  have a := zz_ctp_mono (f := f) (j := j + 1) n (by omega)
  rw [zz_ctp, if_pos h] at a
  omega
theorem zz_ct_ctp {dn nee : Nat → Int32} {mf : Nat} (h1 : zz_dn dn nee mf) (h2 : zz_dqn nee dn mf) : ∀ n : Nat, n ≤ mf → zz_ct dn n = zz_ctp nee n
  | 0, _ => rfl
  | n + 1, h => by
    rw [zz_ct, zz_ctp, zz_ct_ctp h1 h2 n (by omega)]
    by_cases c : (dn n).toInt < 0
    · rw [if_pos c, if_pos (h1 n (by omega) c)]
    · rw [if_neg c, if_neg (fun z => c (h2 n (by omega) z))]
theorem zz_tk_0 {q0 q1 q2 q3 q4 nee re va : Nat → Int32} {t0 : Nat} : zz_tk7 q0 q1 q2 q3 q4 nee re va t0 0 (fun q => q < 0 ∧ 1 ≤ (nee q).toInt) := ⟨⟨⟨fun i h => absurd h (Nat.not_lt_zero _), fun i j h => absurd h (Nat.not_lt_zero _)⟩, fun q h => absurd h.1 (Nat.not_lt_zero _)⟩, fun k h => absurd h (Nat.not_lt_zero _), fun a b _ h => absurd h (Nat.not_lt_zero _)⟩
