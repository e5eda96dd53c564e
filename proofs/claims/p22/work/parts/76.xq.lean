theorem zz_by8 : ∀ v : BitVec 8, (0 ≤ (v.signExtend 32).toInt ∧ v.setWidth 32 = v.signExtend 32) ∨ ((v.signExtend 32).toInt < 0 ∧ 128 ≤ (v.setWidth 32).toInt) := by decide +kernel
theorem zz_by_s (x : Int32) (s : Nat) (hs : s ≤ 24) (y z : Int32) (hy : y.toBitVec = ((x.toBitVec.sshiftRight s).setWidth 8).signExtend 32) (hz : z.toBitVec = (x.toBitVec >>> s) &&& 255#32) : zz_by y z := by
  have e1 : (x.toBitVec.sshiftRight s).setWidth 8 = (x.toBitVec >>> s).setWidth 8 := by
    apply BitVec.eq_of_getLsbD_eq
    intro i hi
    simp only [BitVec.getLsbD_setWidth, BitVec.getLsbD_sshiftRight, BitVec.getLsbD_ushiftRight]
    have h1 : i < 8 := hi
    have h2 : s + i < 32 := by omega
    simp [h1, h2]
    omega
  have e2 : (x.toBitVec >>> s) &&& 255#32 = ((x.toBitVec >>> s).setWidth 8).setWidth 32 := by
    apply BitVec.eq_of_getLsbD_eq
    intro i hi
    have k : ∀ j : Nat, j < 32 → (255#32).getLsbD j = decide (j < 8) := by decide
    rw [BitVec.getLsbD_and, k i hi, BitVec.getLsbD_setWidth, BitVec.getLsbD_setWidth]
    by_cases c : i < 8
    · simp [c, hi]
    · simp [c, hi]
  rw [e1] at hy
  rw [e2] at hz
  rcases zz_by8 ((x.toBitVec >>> s).setWidth 8) with ⟨a, b⟩ | ⟨a, b⟩
  · left
    refine ⟨?_, ?_⟩
    · show 0 ≤ y.toBitVec.toInt
      rw [hy]; exact a
    · apply Int32.toBitVec_inj.mp
      rw [hy, hz]; exact b
  · right
    refine ⟨?_, ?_⟩
    · show y.toBitVec.toInt < 0
      rw [hy]; exact a
    · show 128 ≤ z.toBitVec.toInt
      rw [hz]; exact b
theorem zz_se8 (v : BitVec 32) : v.signExtend 8 = v.setWidth 8 := by
  apply BitVec.eq_of_getLsbD_eq
  intro i hi
  rw [BitVec.getLsbD_signExtend, BitVec.getLsbD_setWidth]
  have h2 : i < 32 := by omega
  simp [hi, h2]
theorem zz_rb24 (x : Int32) : ((Int8.toInt32 (Int32.toInt8 (x >>> (24 &&& 31))))).toBitVec = ((x.toBitVec.sshiftRight 24).setWidth 8).signExtend 32 := by
  rw [Int8.toBitVec_toInt32, Int32.toBitVec_toInt8, Int32.toBitVec_shiftRight, zz_se8]
  have e : ((24 : Int32) &&& 31).toBitVec.smod 32 = 24#32 := by decide
  rw [e]; rfl
theorem zz_rb16 (x : Int32) : ((Int8.toInt32 (Int32.toInt8 (x >>> (16 &&& 31))))).toBitVec = ((x.toBitVec.sshiftRight 16).setWidth 8).signExtend 32 := by
  rw [Int8.toBitVec_toInt32, Int32.toBitVec_toInt8, Int32.toBitVec_shiftRight, zz_se8]
  have e : ((16 : Int32) &&& 31).toBitVec.smod 32 = 16#32 := by decide
  rw [e]; rfl
theorem zz_rb8 (x : Int32) : ((Int8.toInt32 (Int32.toInt8 (x >>> (8 &&& 31))))).toBitVec = ((x.toBitVec.sshiftRight 8).setWidth 8).signExtend 32 := by
  rw [Int8.toBitVec_toInt32, Int32.toBitVec_toInt8, Int32.toBitVec_shiftRight, zz_se8]
  have e : ((8 : Int32) &&& 31).toBitVec.smod 32 = 8#32 := by decide
  rw [e]; rfl
theorem zz_rb0 (x : Int32) : ((Int8.toInt32 (Int32.toInt8 x))).toBitVec = ((x.toBitVec.sshiftRight 0).setWidth 8).signExtend 32 := by
  rw [Int8.toBitVec_toInt32, Int32.toBitVec_toInt8, zz_se8, BitVec.sshiftRight_zero]
theorem zz_cb24 (x : Int32) : ((Int32.toUInt32 x >>> (Int32.toUInt32 24 &&& Int32.toUInt32 31)).toInt32 &&& 255).toBitVec = (x.toBitVec >>> 24) &&& 255#32 := by
  rw [Int32.toBitVec_and]
  rfl
theorem zz_cb16 (x : Int32) : ((Int32.toUInt32 x >>> (Int32.toUInt32 16 &&& Int32.toUInt32 31)).toInt32 &&& 255).toBitVec = (x.toBitVec >>> 16) &&& 255#32 := by
  rw [Int32.toBitVec_and]
  rfl
theorem zz_cb8 (x : Int32) : ((Int32.toUInt32 x >>> (Int32.toUInt32 8 &&& Int32.toUInt32 31)).toInt32 &&& 255).toBitVec = (x.toBitVec >>> 8) &&& 255#32 := by
  rw [Int32.toBitVec_and]
  rfl
theorem zz_cb0 (x : Int32) : ((Int32.toUInt32 x >>> (Int32.toUInt32 0 &&& Int32.toUInt32 31)).toInt32 &&& 255).toBitVec = (x.toBitVec >>> 0) &&& 255#32 := by
  rw [Int32.toBitVec_and]
  rfl
theorem zz_by_24 (x : Int32) : zz_by (Int8.toInt32 (Int32.toInt8 (x >>> (24 &&& 31)))) ((Int32.toUInt32 x >>> (Int32.toUInt32 24 &&& Int32.toUInt32 31)).toInt32 &&& 255) := zz_by_s x 24 (by decide) _ _ (zz_rb24 x) (zz_cb24 x)
theorem zz_by_16 (x : Int32) : zz_by (Int8.toInt32 (Int32.toInt8 (x >>> (16 &&& 31)))) ((Int32.toUInt32 x >>> (Int32.toUInt32 16 &&& Int32.toUInt32 31)).toInt32 &&& 255) := zz_by_s x 16 (by decide) _ _ (zz_rb16 x) (zz_cb16 x)
theorem zz_by_8 (x : Int32) : zz_by (Int8.toInt32 (Int32.toInt8 (x >>> (8 &&& 31)))) ((Int32.toUInt32 x >>> (Int32.toUInt32 8 &&& Int32.toUInt32 31)).toInt32 &&& 255) := zz_by_s x 8 (by decide) _ _ (zz_rb8 x) (zz_cb8 x)
theorem zz_by_0 (x : Int32) : zz_by (Int8.toInt32 (Int32.toInt8 x)) ((Int32.toUInt32 x >>> (Int32.toUInt32 0 &&& Int32.toUInt32 31)).toInt32 &&& 255) := zz_by_s x 0 (by decide) _ _ (zz_rb0 x) (zz_cb0 x)
def zz_ap4 (f : Nat → Int32) (n : Nat) (w x y z : Int32) : Nat → Int32 := upd (upd (upd (upd f n w) (n + 1) x) (n + 2) y) (n + 3) z
theorem zz_ap4_eq {f : Nat → Int32} {n : Nat} {w x y z : Int32} (h : n ≤ 196) : upd (upd (upd (upd f (Int32.toNatClampNeg (nI n)) w) (Int32.toNatClampNeg (nI (n + 1))) x) (Int32.toNatClampNeg (nI (n + 1 + 1))) y) (Int32.toNatClampNeg (nI (n + 1 + 1 + 1))) z = zz_ap4 f n w x y z := by
  rw [zz_cl (show n < 2147483648 by omega), zz_cl (show n + 1 < 2147483648 by omega), zz_cl (show n + 1 + 1 < 2147483648 by omega), zz_cl (show n + 1 + 1 + 1 < 2147483648 by omega)]
  rfl
theorem zz_ap4_by {f g : Nat → Int32} {n : Nat} {w x y z w2 x2 y2 z2 : Int32} (h : ∀ i : Nat, i < n → zz_by (g i) (f i)) (h0 : zz_by w2 w) (h1 : zz_by x2 x) (h2 : zz_by y2 y) (h3 : zz_by z2 z) : ∀ i : Nat, i < n + 4 → zz_by (zz_ap4 g n w2 x2 y2 z2 i) (zz_ap4 f n w x y z i) := by
  intro i hi
  unfold zz_ap4
  simp only [upd]
  by_cases e3 : i = n + 3
  · rw [if_pos e3, if_pos e3]; exact h3
  · rw [if_neg e3, if_neg e3]
    by_cases e2 : i = n + 2
    · rw [if_pos e2, if_pos e2]; exact h2
    · rw [if_neg e2, if_neg e2]
      by_cases e1 : i = n + 1
      · rw [if_pos e1, if_pos e1]; exact h1
      · rw [if_neg e1, if_neg e1]
        by_cases e0 : i = n
        · rw [if_pos e0, if_pos e0]; exact h0
        · rw [if_neg e0, if_neg e0]; exact h i (by omega)
def zz_apc (f : Nat → Int32) (n : Nat) (p : Int32) : Nat → Int32 := zz_ap4 f n ((Int32.toUInt32 p >>> (Int32.toUInt32 24 &&& Int32.toUInt32 31)).toInt32 &&& 255) ((Int32.toUInt32 p >>> (Int32.toUInt32 16 &&& Int32.toUInt32 31)).toInt32 &&& 255) ((Int32.toUInt32 p >>> (Int32.toUInt32 8 &&& Int32.toUInt32 31)).toInt32 &&& 255) ((Int32.toUInt32 p >>> (Int32.toUInt32 0 &&& Int32.toUInt32 31)).toInt32 &&& 255)
def zz_apm (f : Nat → Int32) (n : Nat) (p : Int32) : Nat → Int32 := zz_ap4 f n (vp_nar .byte (Int8.toInt32 (Int32.toInt8 (p >>> (24 &&& 31))))) (vp_nar .byte (Int8.toInt32 (Int32.toInt8 (p >>> (16 &&& 31))))) (vp_nar .byte (Int8.toInt32 (Int32.toInt8 (p >>> (8 &&& 31))))) (vp_nar .byte (Int8.toInt32 (Int32.toInt8 p)))
theorem zz_apc_eq {f : Nat → Int32} {n : Nat} {p w x y z : Int32} (h : n ≤ 196) (e0 : w = ((Int32.toUInt32 p >>> (Int32.toUInt32 24 &&& Int32.toUInt32 31)).toInt32 &&& 255)) (e1 : x = ((Int32.toUInt32 p >>> (Int32.toUInt32 16 &&& Int32.toUInt32 31)).toInt32 &&& 255)) (e2 : y = ((Int32.toUInt32 p >>> (Int32.toUInt32 8 &&& Int32.toUInt32 31)).toInt32 &&& 255)) (e3 : z = ((Int32.toUInt32 p >>> (Int32.toUInt32 0 &&& Int32.toUInt32 31)).toInt32 &&& 255)) : upd (upd (upd (upd f (Int32.toNatClampNeg (nI n)) w) (Int32.toNatClampNeg (nI (n + 1))) x) (Int32.toNatClampNeg (nI (n + 1 + 1))) y) (Int32.toNatClampNeg (nI (n + 1 + 1 + 1))) z = zz_apc f n p := by
  rw [zz_ap4_eq h, e0, e1, e2, e3]
  rfl
theorem zz_apm_eq {f : Nat → Int32} {n : Nat} {p w x y z : Int32} (h : n ≤ 196) (e0 : w = (Int8.toInt32 (Int32.toInt8 (p >>> (24 &&& 31))))) (e1 : x = (Int8.toInt32 (Int32.toInt8 (p >>> (16 &&& 31))))) (e2 : y = (Int8.toInt32 (Int32.toInt8 (p >>> (8 &&& 31))))) (e3 : z = (Int8.toInt32 (Int32.toInt8 p))) : upd (upd (upd (upd f (Int32.toNatClampNeg (nI n)) (vp_nar .byte w)) (Int32.toNatClampNeg (nI (n + 1))) (vp_nar .byte x)) (Int32.toNatClampNeg (nI (n + 2))) (vp_nar .byte y)) (Int32.toNatClampNeg (nI (n + 3))) (vp_nar .byte z) = zz_apm f n p := by
  rw [zz_cl (show n < 2147483648 by omega), zz_cl (show n + 1 < 2147483648 by omega), zz_cl (show n + 2 < 2147483648 by omega), zz_cl (show n + 3 < 2147483648 by omega), e0, e1, e2, e3]
  rfl
theorem zz_narb (x : Int32) : vp_nar .byte (Int8.toInt32 (Int32.toInt8 x)) = Int8.toInt32 (Int32.toInt8 x) := by
  rw [vp_nar_byte, Int8.toInt8_toInt32]
theorem zz_ap_by {f g : Nat → Int32} {n : Nat} {p : Int32} (h : ∀ i : Nat, i < n → zz_by (g i) (f i)) : ∀ i : Nat, i < n + 4 → zz_by (zz_apm g n p i) (zz_apc f n p i) :=
  zz_ap4_by h (by rw [zz_narb]; exact zz_by_24 p) (by rw [zz_narb]; exact zz_by_16 p) (by rw [zz_narb]; exact zz_by_8 p) (by rw [zz_narb]; exact zz_by_0 p)
def zz_fdc (f : Nat → Int32) (n : Nat) (p0 p1 p2 p3 p4 : Int32) : Nat → Int32 := zz_apc (zz_apc (zz_apc (zz_apc (zz_apc f n p0) (n + 4) p1) (n + 4 + 4) p2) (n + 4 + 4 + 4) p3) (n + 4 + 4 + 4 + 4) p4
def zz_fdm (f : Nat → Int32) (n : Nat) (p0 p1 p2 p3 p4 : Int32) : Nat → Int32 := zz_apm (zz_apm (zz_apm (zz_apm (zz_apm f n p0) (n + 4) p1) (n + 4 + 4) p2) (n + 4 + 4 + 4) p3) (n + 4 + 4 + 4 + 4) p4
theorem zz_fdc_of {f f1 f2 f3 f4 f5 : Nat → Int32} {n t1 t2 t3 t4 t5 : Nat} {p0 p1 p2 p3 p4 : Int32} (a1 : t1 = n + 4 ∧ f1 = zz_apc f n p0) (a2 : t2 = t1 + 4 ∧ f2 = zz_apc f1 t1 p1) (a3 : t3 = t2 + 4 ∧ f3 = zz_apc f2 t2 p2) (a4 : t4 = t3 + 4 ∧ f4 = zz_apc f3 t3 p3) (a5 : t5 = t4 + 4 ∧ f5 = zz_apc f4 t4 p4) : f5 = zz_fdc f n p0 p1 p2 p3 p4 := by
  rw [a5.2, a4.2, a3.2, a2.2, a1.2, a4.1, a3.1, a2.1, a1.1]
  rfl
theorem zz_fdm_of {f f1 f2 f3 f4 f5 : Nat → Int32} {n t1 t2 t3 t4 t5 : Nat} {p0 p1 p2 p3 p4 : Int32} (a1 : t1 = n + 4 ∧ f1 = zz_apm f n p0) (a2 : t2 = t1 + 4 ∧ f2 = zz_apm f1 t1 p1) (a3 : t3 = t2 + 4 ∧ f3 = zz_apm f2 t2 p2) (a4 : t4 = t3 + 4 ∧ f4 = zz_apm f3 t3 p3) (a5 : t5 = t4 + 4 ∧ f5 = zz_apm f4 t4 p4) : f5 = zz_fdm f n p0 p1 p2 p3 p4 := by
  rw [a5.2, a4.2, a3.2, a2.2, a1.2, a4.1, a3.1, a2.1, a1.1]
  rfl
theorem zz_fd_by {f g : Nat → Int32} {n : Nat} {p0 p1 p2 p3 p4 : Int32} (h : ∀ i : Nat, i < n → zz_by (g i) (f i)) : ∀ i : Nat, i < n + 4 + 4 + 4 + 4 + 4 → zz_by (zz_fdm g n p0 p1 p2 p3 p4 i) (zz_fdc f n p0 p1 p2 p3 p4 i) :=
  zz_ap_by (zz_ap_by (zz_ap_by (zz_ap_by (zz_ap_by h))))
