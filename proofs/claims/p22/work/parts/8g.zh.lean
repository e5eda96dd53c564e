set_option maxHeartbeats 4000000 in
theorem zz_J_house {V2 : Nat → Nat → Int32} {a : Nat → Nat} {dn f1 f2 gt ha il kd la nee ow pd re us va wi yha ywi : Nat → Int32} {mf mh nh xh yh : Nat} {p0 p1 r1 r2 : Int32} (hag1 : nh = mh) (hp : p1 = 0 ∨ p1 = 1) (X : ((1 ≤ p0.toInt ∧ p0.toInt ≤ 9 ∧ nh < 8) ∧ r1 = nI nh ∧ xh = (nh + 1) ∧ zz_RV a V2 (upd ha nh p0) (upd wi nh p1) il us f1 f2 pd la (zz_prn ow dn gt mf) ow kd nee re va (zz_dfn dn mf) (zz_pfn dn gt mf)) ∨ (¬ (1 ≤ p0.toInt ∧ p0.toInt ≤ 9 ∧ nh < 8) ∧ r1 = -1 ∧ xh = nh ∧ zz_RV a V2 ha wi il us f1 f2 pd la (zz_prn ow dn gt mf) ow kd nee re va (zz_dfn dn mf) (zz_pfn dn gt mf))) (Y : ((1 ≤ p0.toInt ∧ p0.toInt ≤ 9 ∧ mh < 8) ∧ r2 = nI mh ∧ yh = (mh + 1) ∧ yha = upd ha mh p0 ∧ ywi = upd wi mh (vp_nar .boolean p1)) ∨ (¬ (1 ≤ p0.toInt ∧ p0.toInt ≤ 9 ∧ mh < 8) ∧ r2 = -1 ∧ yh = mh ∧ yha = ha ∧ ywi = wi)) : r1 = r2 ∧ xh = yh ∧ zz_RV a V2 yha ywi il us f1 f2 pd la (zz_prn ow dn gt mf) ow kd nee re va (zz_dfn dn mf) (zz_pfn dn gt mf) := by
  subst hag1
  have hb : vp_nar .boolean p1 = p1 := by rcases hp with h | h <;> subst h <;> decide
  rcases X with ⟨a0, a1, a2, aR⟩ | ⟨a0, a1, a2, aR⟩ <;> rcases Y with ⟨b0, b1, b2, b3, b4⟩ | ⟨b0, b1, b2, b3, b4⟩
  · refine ⟨a1.trans b1.symm, a2.trans b2.symm, ?_⟩
    rw [b3, b4, hb]; exact aR
  · exact absurd a0 b0
  · exact absurd b0 a0
  · refine ⟨a1.trans b1.symm, a2.trans b2.symm, ?_⟩
    rw [b3, b4]; exact aR
set_option maxHeartbeats 4000000 in
theorem zz_J_ill {V2 : Nat → Nat → Int32} {a : Nat → Nat} {dn f1 f2 gt ha il kd la nee ow pd re us va wi yil : Nat → Int32} {mf mh nh : Nat} {p0 p1 r1 r2 : Int32} (hag1 : nh = mh) (hil : zz_rg il 8 0 400) (X : (((0 ≤ p0.toInt ∧ p0.toInt < (nh : Int)) ∧ (0 ≤ p1.toInt ∧ p1.toInt ≤ 400)) ∧ r1 = 1 ∧ zz_RV a V2 ha wi (upd il (Int32.toNatClampNeg p0) p1) us f1 f2 pd la (zz_prn ow dn gt mf) ow kd nee re va (zz_dfn dn mf) (zz_pfn dn gt mf)) ∨ (¬ ((0 ≤ p0.toInt ∧ p0.toInt < (nh : Int)) ∧ (0 ≤ p1.toInt ∧ p1.toInt ≤ 400)) ∧ r1 = 0 ∧ zz_RV a V2 ha wi il us f1 f2 pd la (zz_prn ow dn gt mf) ow kd nee re va (zz_dfn dn mf) (zz_pfn dn gt mf))) (Y : (((0 ≤ p0.toInt ∧ p0.toInt < (mh : Int)) ∧ (0 ≤ p1.toInt ∧ p1.toInt ≤ 400)) ∧ r2 = 1 ∧ yil = upd il (Int32.toNatClampNeg p0) p1) ∨ (¬ ((0 ≤ p0.toInt ∧ p0.toInt < (mh : Int)) ∧ (0 ≤ p1.toInt ∧ p1.toInt ≤ 400)) ∧ r2 = 0 ∧ yil = il)) : r1 = r2 ∧ zz_RV a V2 ha wi yil us f1 f2 pd la (zz_prn ow dn gt mf) ow kd nee re va (zz_dfn dn mf) (zz_pfn dn gt mf) ∧ zz_rg yil 8 0 400 := by
  subst hag1
  rcases X with ⟨a0, a1, aR⟩ | ⟨a0, a1, aR⟩ <;> rcases Y with ⟨b0, b1, b3⟩ | ⟨b0, b1, b3⟩
  · refine ⟨a1.trans b1.symm, ?_, ?_⟩
    · rw [b3]; exact aR
    · rw [b3]; exact zz_rg_set hil b0.2
  · exact absurd a0 b0
  · exact absurd b0 a0
  · refine ⟨a1.trans b1.symm, ?_, ?_⟩
    · rw [b3]; exact aR
    · rw [b3]; exact hil
set_option maxHeartbeats 4000000 in
theorem zz_J_loss {fl lo xfl yfl : Nat → Int32} {p0 p1 r1 r2 : Int32} (hel : fl = lo) (X : (((0 ≤ p0.toInt ∧ p0.toInt ≤ 9) ∧ (0 ≤ p1.toInt ∧ p1.toInt ≤ 100)) ∧ r1 = 1 ∧ xfl = upd fl (Int32.toNatClampNeg p0) p1) ∨ (¬ ((0 ≤ p0.toInt ∧ p0.toInt ≤ 9) ∧ (0 ≤ p1.toInt ∧ p1.toInt ≤ 100)) ∧ r1 = 0 ∧ xfl = fl)) (Y : (((0 ≤ p0.toInt ∧ p0.toInt ≤ 9) ∧ (0 ≤ p1.toInt ∧ p1.toInt ≤ 100)) ∧ r2 = 1 ∧ yfl = upd lo (Int32.toNatClampNeg p0) p1) ∨ (¬ ((0 ≤ p0.toInt ∧ p0.toInt ≤ 9) ∧ (0 ≤ p1.toInt ∧ p1.toInt ≤ 100)) ∧ r2 = 0 ∧ yfl = lo)) : r1 = r2 ∧ xfl = yfl := by
  subst hel
  rcases X with ⟨a0, a1, a2⟩ | ⟨a0, a1, a2⟩ <;> rcases Y with ⟨b0, b1, b3⟩ | ⟨b0, b1, b3⟩
  · exact ⟨a1.trans b1.symm, a2.trans b3.symm⟩
  · exact absurd a0 b0
  · exact absurd b0 a0
  · exact ⟨a1.trans b1.symm, a2.trans b3.symm⟩
set_option maxHeartbeats 4000000 in
theorem zz_J_field {V2 : Nat → Nat → Int32} {a : Nat → Nat} {dn f1 f2 gt ha il kd la nee ow pd re us va wi yd ykd yn yow yre yva : Nat → Int32} {mf mh nf nh xf yf : Nat} {p0 p1 p2 p3 p4 r1 r2 : Int32} (hag1 : nh = mh) (hag2 : nf = mf) (hdq : zz_dqn nee dn mf) (X : (((0 ≤ p0.toInt ∧ p0.toInt < (nh : Int)) ∧ (0 ≤ p1.toInt ∧ p1.toInt ≤ 2) ∧ (1 ≤ p2.toInt ∧ p2.toInt ≤ 60) ∧ (0 ≤ p3.toInt ∧ p3.toInt ≤ 400) ∧ (0 ≤ p4.toInt ∧ p4.toInt ≤ 10000) ∧ nf < 12) ∧ r1 = nI nf ∧ xf = (nf + 1) ∧ zz_RV a V2 ha wi il us f1 f2 pd la (zz_prn ow dn gt mf) (upd ow nf p0) (upd kd nf p1) (upd nee nf p2) (upd re nf p3) (upd va nf p4) (zz_dfn dn mf) (zz_pfn dn gt mf)) ∨ (¬ ((0 ≤ p0.toInt ∧ p0.toInt < (nh : Int)) ∧ (0 ≤ p1.toInt ∧ p1.toInt ≤ 2) ∧ (1 ≤ p2.toInt ∧ p2.toInt ≤ 60) ∧ (0 ≤ p3.toInt ∧ p3.toInt ≤ 400) ∧ (0 ≤ p4.toInt ∧ p4.toInt ≤ 10000) ∧ nf < 12) ∧ r1 = -1 ∧ xf = nf ∧ zz_RV a V2 ha wi il us f1 f2 pd la (zz_prn ow dn gt mf) ow kd nee re va (zz_dfn dn mf) (zz_pfn dn gt mf))) (Y : ((((0 ≤ p0.toInt ∧ p0.toInt < (mh : Int)) ∧ (0 ≤ p1.toInt ∧ p1.toInt ≤ 2) ∧ (1 ≤ p2.toInt ∧ p2.toInt ≤ 60) ∧ (0 ≤ p3.toInt ∧ p3.toInt ≤ 400) ∧ (0 ≤ p4.toInt ∧ p4.toInt ≤ 10000) ∧ mf < 12) ∧ r2 = nI mf ∧ yf = (mf + 1) ∧ yow = upd ow mf p0 ∧ ykd = upd kd mf p1 ∧ yn = upd nee mf p2 ∧ yre = upd re mf p3 ∧ yva = upd va mf p4 ∧ yd = upd dn mf (-1)) ∨ (¬ ((0 ≤ p0.toInt ∧ p0.toInt < (mh : Int)) ∧ (0 ≤ p1.toInt ∧ p1.toInt ≤ 2) ∧ (1 ≤ p2.toInt ∧ p2.toInt ≤ 60) ∧ (0 ≤ p3.toInt ∧ p3.toInt ≤ 400) ∧ (0 ≤ p4.toInt ∧ p4.toInt ≤ 10000) ∧ mf < 12) ∧ r2 = -1 ∧ yf = mf ∧ yow = ow ∧ ykd = kd ∧ yn = nee ∧ yre = re ∧ yva = va ∧ yd = dn)) ∧ zz_rg yow yf 0 ((mh : Int) - 1) ∧ zz_rg ykd yf 0 2 ∧ zz_rg yn yf 0 60 ∧ zz_rg yre yf 0 400 ∧ zz_rg yva yf 0 10000 ∧ zz_dn yd yn yf) : r1 = r2 ∧ xf = yf ∧ zz_RV a V2 ha wi il us f1 f2 pd la (zz_prn yow yd gt yf) yow ykd yn yre yva (zz_dfn yd yf) (zz_pfn yd gt yf) ∧ zz_dqn yn yd yf := by
  subst hag1 hag2
  have Y := Y.1
  rcases X with ⟨a0, a1, a2, aR⟩ | ⟨a0, a1, a2, aR⟩ <;> rcases Y with ⟨b0, b1, b2, b3, b4, b5, b6, b7, b8⟩ | ⟨b0, b1, b2, b3, b4, b5, b6, b7, b8⟩
  · refine ⟨a1.trans b1.symm, a2.trans b2.symm, ?_, ?_⟩
    · rw [b2, b3, b4, b5, b6, b7, b8, zz_prn_new, zz_dfn_new, zz_pfn_new]; exact aR
    · rw [b2, b5, b8]
      intro k hk h1
      by_cases e : k = nf
      · rw [e, zz_up_s, zz_ng1]; omega
      · rw [zz_up_n e] at h1 ⊢; exact hdq k (by omega) h1
  · exact absurd a0 b0
  · exact absurd b0 a0
  · refine ⟨a1.trans b1.symm, a2.trans b2.symm, ?_, ?_⟩
    · rw [b2, b3, b4, b5, b6, b7, b8]; exact aR
    · rw [b2, b5, b8]; exact hdq
