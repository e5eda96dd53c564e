theorem zz_rs_fin {lo va re nee od lk : Nat → Int32} {mc h wt t op mf : Nat} {s : Int32} {R : Nat → Prop} (hor : zz_or od wt R) (hRm : ∀ q : Nat, R q → q < mf) (hl : zz_rg lo 10 0 100) (hv : zz_rg va mf 0 10000) (H : zz_rs lo va re nee od lk mc h wt t s) (hL : zz_lo lk od wt op) (ho : op = 0) : s.toInt = zz_co lo va re nee mc h wt od ∧ 0 ≤ s.toInt := by
  refine ⟨zz_rs_end H hL ho, ?_⟩
  rw [H.2.2.2]
  exact (zz_sdn_b wt (fun k hk d => zz_lsb hl hv (hRm _ (zz_P_12 hor k hk).2.1) d)).1
theorem zz_dsc_s {A : Nat → Int32} {wu wt : Nat} (h : zz_dsc A (wu - 1) wt) (h2 : 2 ≤ wu) (hlt : (A (wu - 2 + 1)).toInt < (A (wu - 2)).toInt) : zz_dsc A (wu - 1 - 1) wt := by
  intro k a b
  by_cases e : k = wu - 2
  · rw [e]; exact hlt
  · exact h k (by omega) b
theorem zz_kk_s {A : Nat → Int32} {kk wt : Nat} {v : Int} (h : ∀ k : Nat, kk < k → k < wt → (A k).toInt < v) (hlt : (A kk).toInt < v) : ∀ k : Nat, kk - 1 < k → k < wt → (A k).toInt < v := by
  intro k a b
  by_cases e : k = kk
  · rw [e]; exact hlt
  · exact h k (by omega) b
theorem zz_no_end {A oq : Nat → Int32} {wt i kk lw hw : Nat} {R : Nat → Prop} (a : zz_pm A wt R) (b : zz_pm oq wt R) (hi : i < wt) (hd : zz_dsc A (i + 1) wt) (hk : i < kk ∧ kk < wt) (hk1 : (A i).toInt < (A kk).toInt) (hk2 : ∀ k : Nat, kk < k → k < wt → (A k).toInt < (A i).toInt) (m : zz_mir (zz_sw A i kk) oq i wt lw hw) (hl : hw ≤ lw) : zz_lx A wt < zz_lx oq wt ∧ ∀ T : Nat → Int32, zz_pm T wt R → zz_lx A wt < zz_lx T wt → zz_lx oq wt ≤ zz_lx T wt := by
  have b1 : ∀ k : Nat, k < i → oq k = A k := fun k h => by rw [m.2.1 k (by omega), zz_sw_out (by omega) (by omega)]
  have b2 : oq i = A kk := by rw [m.2.1 i (Nat.le_refl _), zz_sw_i]
  exact ⟨zz_lx_lt a.1 b.1 hi b1 (by rw [b2]; exact hk1) wt hi (Nat.le_refl _), zz_succ a b hi hd hk hk1 hk2 b1 b2 (zz_mir_asc m hl (zz_dsc_sw hd hk hk1 hk2))⟩
/-- the first order: the fields that wait, from the least -/
def zz_fp (od dn nee : Nat → Int32) (wt j mf : Nat) : Prop := zz_fo od dn nee wt j mf ∧ (∀ q : Nat, q < j → (dn q).toInt < 0 → ∃ i : Nat, i < wt ∧ od i = nI q) ∧ zz_asc od 0 wt
theorem zz_fp_0 {od dn nee : Nat → Int32} {mf : Nat} : zz_fp od dn nee 0 0 mf := ⟨zz_fo_0, fun q h => absurd h (Nat.not_lt_zero _), fun k _ h => absurd h (Nat.not_lt_zero _)⟩
theorem zz_fp_no {od dn nee : Nat → Int32} {wt j mf : Nat} (h : zz_fp od dn nee wt j mf) (hd : ¬ (dn j).toInt < 0) : zz_fp od dn nee wt (j + 1) mf := by
  refine ⟨zz_fo_no h.1 hd, fun q hq hn => ?_, h.2.2⟩
  by_cases e : q = j
  · rw [e] at hn; exact absurd hn hd
  · exact h.2.1 q (by omega) hn
theorem zz_fp_yes {od dn nee : Nat → Int32} {wt j mf : Nat} (h : zz_fp od dn nee wt j mf) (hd : (dn j).toInt < 0) (hj : j < mf) (hm : mf ≤ 12) (hw : wt < 7) (hn : zz_dn dn nee mf) : zz_fp (upd od (Int32.toNatClampNeg (nI wt)) (nI j)) dn nee (wt + 1) (j + 1) mf := by
  refine ⟨zz_fo_yes h.1 hd hj hm hw hn, ?_⟩
  rw [zz_cl (by omega)]
  refine ⟨fun q hq hq2 => ?_, fun k _ hk => ?_⟩
  · by_cases e : q = j
    · exact ⟨wt, by omega, by rw [zz_up_s, e]⟩
    · obtain ⟨i, hi, ei⟩ := h.2.1 q (by omega) hq2
      exact ⟨i, by omega, by rw [zz_up_n (by omega)]; exact ei⟩
  · by_cases e : k + 1 = wt
    · rw [e, zz_up_s, zz_up_n (by omega), zz_toInt j (by omega)]
      exact h.1.2.2 k (by omega)
    · rw [zz_up_n (by omega), zz_up_n (by omega)]
      exact h.2.2 k (Nat.zero_le _) (by omega)
theorem zz_fp_end {od dn nee : Nat → Int32} {wt j mf : Nat} (h : zz_fp od dn nee wt j mf) (hj : j = mf) (hq : zz_dqn nee dn mf) : zz_pm od wt (fun q => q < mf ∧ 1 ≤ (nee q).toInt) ∧ (∀ T : Nat → Int32, zz_pm T wt (fun q => q < mf ∧ 1 ≤ (nee q).toInt) → zz_lx od wt ≤ zz_lx T wt) ∧ wt = zz_ct dn mf := by
  subst hj
  have p : zz_pm od wt (fun q => q < j ∧ 1 ≤ (nee q).toInt) := ⟨h.1.2.1, fun q hR => h.2.1 q hR.1 (hq q hR.1 hR.2)⟩
  exact ⟨p, zz_frst p h.2.2, h.1.1⟩
theorem zz_pm_cg {A B : Nat → Int32} {wt : Nat} {R : Nat → Prop} (h : zz_pm A wt R) (e : ∀ k : Nat, k < wt → B k = A k) : zz_pm B wt R := by
  refine ⟨⟨fun i hi => by rw [e i hi]; exact h.1.1 i hi, fun i j hi hj z => h.1.2 i j hi hj (by rw [← e i hi, ← e j hj]; exact z)⟩, fun q hq => ?_⟩
  obtain ⟨i, hi, z⟩ := h.2 q hq
  exact ⟨i, hi, by rw [e i hi]; exact z⟩
theorem zz_Bst_cg {lo va re nee : Nat → Int32} {mc h wt : Nat} {R : Nat → Prop} {C : (Nat → Int32) → Prop} {r : Int32} {A B : Nat → Int32} (a : zz_Bst lo va re nee mc h wt R C r A) (e : ∀ k : Nat, k < wt → B k = A k) : zz_Bst lo va re nee mc h wt R C r B := by
  refine ⟨zz_pm_cg a.1 e, by rw [a.2.1]; exact zz_co_cg (fun k hk => (e k hk).symm), fun T p c => ?_⟩
  rw [zz_lx_eq wt e]
  exact a.2.2 T p c
/-- where the reference's run through the orders stands -/
def zz_pst (lo va re nee : Nat → Int32) (mc h wt : Nat) (R : Nat → Prop) (mv bs : Int32) (ob pb : Nat → Int32) : Prop := (bs.toInt = -1 ∧ mv = 1 ∧ ∀ T : Nat → Int32, zz_pm T wt R → zz_lx ob wt ≤ zz_lx T wt) ∨ (0 ≤ bs.toInt ∧ ((mv = 0 ∧ zz_Bst lo va re nee mc h wt R (fun _ => True) bs pb) ∨ (mv = 1 ∧ zz_Bst lo va re nee mc h wt R (fun T => zz_lx T wt < zz_lx ob wt) bs pb ∧ zz_lx pb wt < zz_lx ob wt)))
theorem zz_pst_new {lo va re nee : Nat → Int32} {mc h wt : Nat} {R : Nat → Prop} {mv bs s : Int32} {ob pb pc : Nat → Int32} (H : zz_pst lo va re nee mc h wt R mv bs ob pb) (hm : ¬ mv = 0) (o : zz_pm ob wt R) (hs : s.toInt = zz_co lo va re nee mc h wt ob ∧ 0 ≤ s.toInt) (hlt : bs.toInt < 0 ∨ s.toInt < bs.toInt) (hcp : ∀ k : Nat, k < wt → pc k = ob k) : zz_Bst lo va re nee mc h wt R (fun T => zz_lx T wt ≤ zz_lx ob wt) s pc ∧ 0 ≤ s.toInt ∧ zz_lx pc wt ≤ zz_lx ob wt := by
  refine ⟨zz_Bst_cg (zz_Bst_new (bs := bs) (pb := pb) o hs.1 ?_) hcp, hs.2, by rw [zz_lx_eq wt hcp]; exact Nat.le_refl _⟩
  rcases H with ⟨a, b, c⟩ | ⟨a, b | b⟩
  · exact Or.inl ⟨by omega, fun T p z => by have := c T p; omega⟩
  · exact absurd b.1 hm
  · exact Or.inr ⟨b.2.1, by omega⟩
theorem zz_pst_old {lo va re nee : Nat → Int32} {mc h wt : Nat} {R : Nat → Prop} {mv bs s : Int32} {ob pb : Nat → Int32} (H : zz_pst lo va re nee mc h wt R mv bs ob pb) (hm : ¬ mv = 0) (o : zz_pm ob wt R) (hs : s.toInt = zz_co lo va re nee mc h wt ob ∧ 0 ≤ s.toInt) (h0 : 0 ≤ bs.toInt) (h2 : ¬ s.toInt < bs.toInt) : zz_Bst lo va re nee mc h wt R (fun T => zz_lx T wt ≤ zz_lx ob wt) bs pb ∧ 0 ≤ bs.toInt ∧ zz_lx pb wt ≤ zz_lx ob wt := by
  rcases H with ⟨a, b, c⟩ | ⟨a, b | b⟩
  · omega
  · exact absurd b.1 hm
  · exact ⟨zz_Bst_old o hs.1 b.2.1 b.2.2 h2, h0, Nat.le_of_lt b.2.2⟩
theorem zz_pst_next {lo va re nee : Nat → Int32} {mc h wt : Nat} {R : Nat → Prop} {r b2 : Int32} {ob oe pb2 : Nat → Int32} (H : zz_Bst lo va re nee mc h wt R (fun T => zz_lx T wt ≤ zz_lx ob wt) b2 pb2 ∧ 0 ≤ b2.toInt ∧ zz_lx pb2 wt ≤ zz_lx ob wt) (n2 : (r = 0 ∧ ∀ T : Nat → Int32, zz_pm T wt R → zz_lx T wt ≤ zz_lx ob wt) ∨ (r = 1 ∧ zz_lx ob wt < zz_lx oe wt ∧ ∀ T : Nat → Int32, zz_pm T wt R → zz_lx ob wt < zz_lx T wt → zz_lx oe wt ≤ zz_lx T wt)) : zz_pst lo va re nee mc h wt R r b2 oe pb2 := by
  refine Or.inr ⟨H.2.1, ?_⟩
  rcases n2 with ⟨a, b⟩ | ⟨a, b, c⟩
  · exact Or.inl ⟨a, zz_Bst_to H.1 (fun T p _ => b T p)⟩
  · refine Or.inr ⟨a, zz_Bst_to H.1 (fun T p d => ?_), by have := H.2.2; omega⟩
    rcases Nat.lt_or_ge (zz_lx ob wt) (zz_lx T wt) with z | z
    · have d2 : zz_lx T wt < zz_lx oe wt := d
      have := c T p z
      omega
    · exact z
theorem zz_pst_end {lo va re nee : Nat → Int32} {mc h wt : Nat} {R : Nat → Prop} {mv bs : Int32} {ob pb : Nat → Int32} (H : zz_pst lo va re nee mc h wt R mv bs ob pb) (hm : mv = 0) : zz_Bst lo va re nee mc h wt R (fun _ => True) bs pb := by
  subst hm
  rcases H with ⟨a, b, c⟩ | ⟨a, b | b⟩
  · exact absurd b (by decide)
  · exact b.2
  · exact absurd b.1 (by decide)
theorem zz_pcp {pc2 ob : Nat → Int32} {k : Nat} (h : ∀ j : Nat, j < k → pc2 j = ob j) (hk : k < 7) : ∀ j : Nat, j < k + 1 → upd pc2 (Int32.toNatClampNeg (nI k)) (ob k) j = ob j := by
  intro j hj
  rw [zz_cl (by omega)]
  by_cases e : j = k
  · rw [e, zz_up_s]
  · rw [zz_up_n e]; exact h j (by omega)
