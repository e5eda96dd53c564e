theorem zz_pf_bs {N P K : Nat → Nat} {n i : Nat} (hi : i ≤ n) (hK : ∀ a : Nat, a < n → K a < n ∧ P a = N (K a)) (hN : ∀ a b : Nat, a < n → b < n → N a = N b → a = b) : zz_pf P i = zz_bs N (zz_mk K i) n := by
  funext x
  have e : zz_pf P i x = true ↔ zz_bs N (zz_mk K i) n x = true := by
    rw [zz_pf_in, zz_bs_in]
    constructor
    · rintro ⟨j, hj, z⟩
      exact ⟨K j, (hK j (by omega)).1, (zz_mk_in i).mpr ⟨j, hj, rfl⟩, by rw [← (hK j (by omega)).2]; exact z⟩
    · rintro ⟨j, hj, b, z⟩
      obtain ⟨a, ha, e⟩ := (zz_mk_in i).mp b
      exact ⟨a, ha, by rw [(hK a (by omega)).2, e]; exact z⟩
  cases u : zz_pf P i x <;> cases v : zz_bs N (zz_mk K i) n x <;> rw [u, v] at e <;> simp at e <;> rfl
theorem zz_cst_s {N P K : Nat → Nat} {lf : Nat → Nat → Int} {st nd : Nat → Nat} {h t0 n i : Nat} (hi : i < n) (hK : ∀ a : Nat, a < n → K a < n ∧ P a = N (K a)) (hN : ∀ a b : Nat, a < n → b < n → N a = N b → a = b) : zz_cst lf st nd h t0 P (i + 1) = zz_cst lf st nd h t0 P i + zz_ck N lf st nd h t0 n (zz_mk K i) (K i) := by
  rw [zz_cst, zz_pf_bs (N := N) (K := K) (show i + 1 ≤ n by omega) hK hN, (hK i hi).2]
  rfl
/-- the set's value and what was spent never fall along an order -/
theorem zz_phi {N P K : Nat → Nat} {lf : Nat → Nat → Int} {st nd : Nat → Nat} {h t0 n : Nat} {LL BN : Nat → Int32} (D : zz_DPs N (zz_ck N lf st nd h t0 n) LL BN n 0) (hK : ∀ a : Nat, a < n → K a < n ∧ P a = N (K a)) (hN : ∀ a b : Nat, a < n → b < n → N a = N b → a = b) (hf : ∀ a : Nat, a < n → (zz_mk K a).testBit (K a) = false) {i : Nat} : ∀ j : Nat, i ≤ j → j ≤ n → zz_cst lf st nd h t0 P i + (LL (zz_mk K i)).toInt ≤ zz_cst lf st nd h t0 P j + (LL (zz_mk K j)).toInt := by
  intro j
  induction j with
  | zero => intro z _; rw [show i = 0 by omega]; exact Int.le_refl _
  | succ j ih =>
    intro z1 z2
    by_cases e : i = j + 1
    · rw [e]; exact Int.le_refl _
    · have I := ih (by omega) (by omega)
      have lt : zz_mk K j < 2 ^ n - 1 := by
        have l := zz_mk_lt (n := n) j (fun a ha => (hK a (by omega)).1)
        have c := zz_mk_cb (n := n) j (fun a ha => ⟨(hK a (by omega)).1, hf a (by omega)⟩)
        by_cases z : zz_mk K j = 2 ^ n - 1
        · rw [z, zz_cb_f n (Nat.le_refl _)] at c; omega
        · omega
      obtain ⟨kb, _, _, _, _, q⟩ := D.2.1 _ (Nat.zero_le _) lt
      have w := q (K j) (hK j (by omega)).1 (hf j (by omega))
      rw [zz_cst_s (show j < n by omega) hK hN]
      show _ ≤ _ + (LL (zz_mk K j ||| 2 ^ K j)).toInt
      omega
theorem zz_mk_full {K : Nat → Nat} {n : Nat} (hK : ∀ a : Nat, a < n → K a < n) (hf : ∀ a : Nat, a < n → (zz_mk K a).testBit (K a) = false) : zz_mk K n = 2 ^ n - 1 := by
  have l := zz_mk_lt (n := n) n hK
  have c := zz_mk_cb (n := n) n (fun a ha => ⟨hK a ha, hf a ha⟩)
  have := zz_full (zz_cb_all n c)
  omega
theorem zz_opt {lo va re nee q0 q1 q2 q3 q4 LL BN o7 : Nat → Int32} {t0 h np r3 : Nat} {R : Nat → Prop} (hn : np ≤ 7) (T : zz_tk7 q0 q1 q2 q3 q4 nee re va t0 np R) (D : zz_DPs (zz_P q0) (zz_ck (zz_P q0) (zz_lsf lo va re) (zz_stf t0 re) (zz_ndf nee) h t0 np) LL BN np 0) (C : zz_ch BN q0 o7 np np r3) : zz_Bst lo va re nee t0 h np R (fun _ => True) (LL 0) o7 := by
  have pm := T.1
  have hN := zz_P_i pm.1
  obtain ⟨K, _, kk⟩ := C
  have hK : ∀ a : Nat, a < np → K a < np ∧ zz_P o7 a = zz_P q0 (K a) := fun a ha => ⟨(kk a ha).1.1, by unfold zz_P; rw [(kk a ha).2.2]⟩
  have hf : ∀ a : Nat, a < np → (zz_mk K a).testBit (K a) = false := fun a ha => (kk a ha).1.2
  have full := zz_mk_full (fun a ha => (hK a ha).1) hf
  have mlt : ∀ (L : Nat → Nat), (∀ a : Nat, a < np → L a < np) → (∀ a : Nat, a < np → (zz_mk L a).testBit (L a) = false) → ∀ j : Nat, j < np → zz_mk L j < 2 ^ np - 1 := by
    intro L l1 l2 j hj
    have l := zz_mk_lt (n := np) j (fun a ha => l1 a (by omega))
    have c := zz_mk_cb (n := np) j (fun a ha => ⟨l1 a (by omega), l2 a (by omega)⟩)
    by_cases z : zz_mk L j = 2 ^ np - 1
    · rw [z, zz_cb_f np (Nat.le_refl _)] at c; omega
    · omega
  have opm : zz_pm o7 np R := by
    refine ⟨⟨fun a ha => by rw [(kk a ha).2.2]; exact pm.1.1 _ (hK a ha).1, fun a b ha hb z => ?_⟩, fun q hq => ?_⟩
    · rw [(kk a ha).2.2, (kk b hb).2.2] at z
      have z2 := pm.1.2 _ _ (hK a ha).1 (hK b hb).1 z
      rcases Nat.lt_trichotomy a b with w | w | w
      · have := hf b hb
        rw [(zz_mk_in b).mpr ⟨a, w, z2⟩] at this; exact absurd this (by decide)
      · exact w
      · have := hf a ha
        rw [(zz_mk_in a).mpr ⟨b, w, z2.symm⟩] at this; exact absurd this (by decide)
    · obtain ⟨k, hk, ek⟩ := pm.2 q hq
      have b : (zz_mk K np).testBit k = true := by rw [full, Nat.testBit_two_pow_sub_one]; exact decide_eq_true hk
      obtain ⟨a, ha, e⟩ := (zz_mk_in np).mp b
      exact ⟨a, ha, by rw [(kk a ha).2.2, e]; exact ek⟩
  have eqs : ∀ j : Nat, j ≤ np → zz_cst (zz_lsf lo va re) (zz_stf t0 re) (zz_ndf nee) h t0 (zz_P o7) j + (LL (zz_mk K j)).toInt = (LL 0).toInt := by
    intro j
    induction j with
    | zero => intro _; show 0 + (LL 0).toInt = _; omega
    | succ j ih =>
      intro hj
      have I := ih (by omega)
      obtain ⟨kb, a2, c2, b2, d2, _⟩ := D.2.1 _ (Nat.zero_le _) (mlt K (fun a ha => (hK a ha).1) hf j (by omega))
      have ekk : K j = kb := by
        have t1 := congrArg Int32.toInt ((kk j (by omega)).2.1.symm.trans b2)
        rw [zz_toInt (K j) (by have := (hK j (by omega)).1; omega), zz_toInt kb (by omega)] at t1
        omega
      rw [zz_cst_s (N := zz_P q0) (K := K) (show j < np by omega) hK hN, ekk]
      show _ + (LL (zz_mk K j ||| 2 ^ K j)).toInt = _
      rw [ekk]; omega
  have tot := eqs np (Nat.le_refl _)
  rw [full, D.1, show (0 : Int32).toInt = 0 from by decide] at tot
  refine ⟨opm, by unfold zz_co; omega, fun P p _ => ?_⟩
  have ex : ∀ a : Nat, ∃ k : Nat, a < np → k < np ∧ P a = q0 k := by
    intro a
    by_cases ha : a < np
    · obtain ⟨q, hR, hq, e⟩ := p.1.1 a ha
      obtain ⟨k, hk, ek⟩ := pm.2 q hR
      exact ⟨k, fun _ => ⟨hk, by rw [e, ek]⟩⟩
    · exact ⟨0, fun z => absurd z ha⟩
  obtain ⟨L, hL⟩ : ∃ L : Nat → Nat, ∀ a : Nat, a < np → L a < np ∧ P a = q0 (L a) := ⟨fun a => Classical.choose (ex a), fun a ha => Classical.choose_spec (ex a) ha⟩
  have hL2 : ∀ a : Nat, a < np → L a < np ∧ zz_P P a = zz_P q0 (L a) := fun a ha => ⟨(hL a ha).1, by unfold zz_P; rw [(hL a ha).2]⟩
  have lf : ∀ a : Nat, a < np → (zz_mk L a).testBit (L a) = false := by
    intro a ha
    cases w : (zz_mk L a).testBit (L a) with
    | false => rfl
    | true =>
      obtain ⟨b, hb, e⟩ := (zz_mk_in a).mp w
      have := p.1.2 b a (by omega) ha (by rw [(hL b (by omega)).2, (hL a ha).2, e])
      omega
  have lfull := zz_mk_full (fun a ha => (hL a ha).1) lf
  have endP : (LL (zz_mk L np)).toInt = 0 := by rw [lfull, D.1]; decide
  unfold zz_co
  have ph := zz_phi D hL2 hN lf (i := 0) np (Nat.zero_le _) (Nat.le_refl _)
  have z0 : zz_cst (zz_lsf lo va re) (zz_stf t0 re) (zz_ndf nee) h t0 (zz_P P) 0 = 0 := rfl
  have zm : zz_mk L 0 = 0 := rfl
  rw [endP, z0, zm] at ph
  by_cases same : (LL 0).toInt = zz_cst (zz_lsf lo va re) (zz_stf t0 re) (zz_ndf nee) h t0 (zz_P P) np
  · right
    refine ⟨same, ?_⟩
    rcases zz_fdiff o7 P np with e | ⟨j, hj, h1, h2⟩
    · rw [zz_lx_eq np e]; exact Nat.le_refl _
    · have eKL : ∀ a : Nat, a < j → L a = K a := by
        intro a ha
        have : q0 (L a) = q0 (K a) := by rw [← (hL a (by omega)).2, h1 a ha, (kk a (by omega)).2.2]
        exact pm.1.2 _ _ (hL a (by omega)).1 (hK a (by omega)).1 this
      have em := zz_mk_cg j eKL
      obtain ⟨kb, a2, c2, b2, d2, e2⟩ := D.2.1 _ (Nat.zero_le _) (mlt L (fun a ha => (hL a ha).1) lf j hj)
      have q := e2 (L j) (hL j hj).1 (lf j hj)
      have up := zz_phi D hL2 hN lf (i := j + 1) np (by omega) (Nat.le_refl _)
      have lw := zz_phi D hL2 hN lf (i := 0) j (Nat.zero_le _) (by omega)
      rw [z0, zm] at lw
      rw [zz_cst_s (show j < np by omega) hL2 hN, endP] at up
      have up2 : zz_cst (zz_lsf lo va re) (zz_stf t0 re) (zz_ndf nee) h t0 (zz_P P) j + zz_ck (zz_P q0) (zz_lsf lo va re) (zz_stf t0 re) (zz_ndf nee) h t0 np (zz_mk L j) (L j) + (LL (zz_mk L j ||| 2 ^ L j)).toInt ≤ zz_cst (zz_lsf lo va re) (zz_stf t0 re) (zz_ndf nee) h t0 (zz_P P) np + 0 := up
      have le : zz_P q0 kb ≤ zz_P q0 (L j) := by
        rcases q with w | w
        · omega
        · exact w.2
      have ekk : K j = kb := by
        rw [em] at b2
        have t1 := congrArg Int32.toInt ((kk j hj).2.1.symm.trans b2)
        rw [zz_toInt (K j) (by have := (hK j hj).1; omega), zz_toInt kb (by omega)] at t1
        omega
      have u := zz_P_12 opm.1 j hj
      have v := zz_P_12 p.1 j hj
      rw [(hK j hj).2, ekk] at u
      rw [(hL2 j hj).2] at v
      have ne : ¬ zz_P q0 kb = zz_P q0 (L j) := fun z => h2 (by rw [v.2.2, u.2.2, z])
      refine Nat.le_of_lt (zz_lx_lt opm.1 p.1 hj h1 ?_ np hj (Nat.le_refl _))
      rw [u.2.2, v.2.2, zz_toInt _ (by omega), zz_toInt _ (by omega)]
      omega
  · left; omega
