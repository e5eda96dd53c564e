def zz_flt (x y p : Int32) : Int32 := if p = 0 then x else if p = 1 then y else -1
def zz_sy (f : Nat → Int32) (p : Int32) : Int32 := if 0 ≤ p.toInt ∧ p.toInt ≤ 6 then f p.toNatClampNeg else -1
theorem zz_flt0 {x y p : Int32} (h : p = 0) : zz_flt x y p = x := if_pos h
theorem zz_flt1 {x y p : Int32} (h0 : ¬ p = 0) (h : p = 1) : zz_flt x y p = y := by unfold zz_flt; rw [if_neg h0, if_pos h]
theorem zz_flt2 {x y p : Int32} (h0 : ¬ p = 0) (h : ¬ p = 1) : zz_flt x y p = -1 := by unfold zz_flt; rw [if_neg h0, if_neg h]
theorem zz_cs_by {f h : Nat → Int32} {n m : Nat} (e : n = m) (hb : ∀ i : Nat, i < n → zz_by (h i) (f i)) : ∀ i : Nat, i < m → zz_by (h i) (zz_cs f n i) := by
  intro i hi
  unfold zz_cs
  rw [if_pos (by omega)]; exact hb i (by omega)
theorem zz_cs_32 {f : Nat → Int32} {n m : Nat} (e : n = m) : ∀ i : Nat, m ≤ i → zz_cs f n i = 32 := by
  intro i hi
  unfold zz_cs
  rw [if_neg (by omega)]
theorem zz_rp_0 {F G : Nat × Int32 × zz_Q} {r1 r2 a1 a2 b1 b2 : Int32} {f f2 h h2 : Nat → Int32} (e : F = G) (x : zz_rp F r1 a1 b1 f f2) (y : zz_rp G r2 a2 b2 h h2) : a1 = a2 := by
  subst e; rw [x.1, y.1]
theorem zz_rp_1 {F G : Nat × Int32 × zz_Q} {r1 r2 a1 a2 b1 b2 : Int32} {f f2 h h2 : Nat → Int32} (e : F = G) (x : zz_rp F r1 a1 b1 f f2) (y : zz_rp G r2 a2 b2 h h2) : b1 = b2 := by
  subst e; rw [x.2.1, y.2.1]
theorem zz_rp_t {F G : Nat × Int32 × zz_Q} {r1 r2 a1 a2 b1 b2 : Int32} {f f2 h h2 : Nat → Int32} (e : F = G) (x : zz_rp F r1 a1 b1 f f2) (y : zz_rp G r2 a2 b2 h h2) (hf : ∀ w : Nat, w < 7 → f w = h w) : ∀ w : Nat, w < 7 → f2 w = h2 w := by
  subst e
  intro w hw
  by_cases z : F.1 = 0
  · rw [(x.2.2.1 z).2 w hw, (y.2.2.1 z).2 w hw]
  · rw [(x.2.2.2 z).2, (y.2.2.2 z).2]; exact hf w hw
theorem zz_RQ {f : Nat → Int32} {n m : Nat} {q : zz_Q} (e : n = m) : zz_R (zz_cs f n) n 0 q = zz_R (zz_cs f n) m 0 q := by subst e; rfl
theorem zz_fd_J {f f2 h h2 : Nat → Int32} {n m n2 m2 : Nat} {p0 p1 p2 p3 p4 r1 r2 : Int32} (e : n = m) (hb : ∀ i : Nat, i < n → zz_by (h i) (f i)) (x : (n ≤ 180 ∧ r1 = nI n2 ∧ n2 = n + 20 ∧ f2 = zz_fdc f n p0 p1 p2 p3 p4) ∨ (¬ n ≤ 180 ∧ r1 = -1 ∧ n2 = n ∧ f2 = f)) (y : (m ≤ 180 ∧ r2 = nI m2 ∧ m2 = m + 20 ∧ h2 = zz_fdm h m p0 p1 p2 p3 p4) ∨ (¬ m ≤ 180 ∧ r2 = -1 ∧ m2 = m ∧ h2 = h)) : ∀ i : Nat, i < n2 → zz_by (h2 i) (f2 i) := by
  subst e
  rcases x with ⟨a, _, b, c⟩ | ⟨a, _, b, c⟩ <;> rcases y with ⟨a2, _, b2, c2⟩ | ⟨a2, _, b2, c2⟩
  · intro i hi
    rw [c, c2]; exact zz_fd_by hb i (by omega)
  · exact absurd a a2
  · exact absurd a2 a
  · intro i hi
    rw [c, c2]; exact hb i (by omega)
set_option maxHeartbeats 4000000 in
set_option maxRecDepth 100000 in
theorem kx_fault (l : Launch) (dC : Nat → ClassId) (dI : Nat → Nat → Nat) (a : Nat → Nat) (nh : Nat) (nf : Nat) (clk : Int32) (hi : Int32) (cu0 : Int32) (cu1 : Int32) (cu2 : Int32) (cu3 : Int32) (cu4 : Int32) (cu5 : Int32) (p0 : Int32) (sz : Nat) : Met l yX7_fault (zz_w yX7_fault cX7_fault 2 (some .int)) ({ frames := 0, cells := 0, slots := 0, locals := 0 }) (va_Pc [.ref (a 0), .int p0] (zz_B (dC, dI) sz [(a 0, .inr (7, [.ref (a 1), .ref (a 10), .ref (a 23), .ref (a 24), .ref (a 26), .ref (a 29), .ref (a 34), .ref (a 43), .int (nI nh), .int (nI nf), .int clk, .int hi])), (a 26, .inr (0, [.ref (a 27), .ref (a 28), .int cu0, .int cu1, .int cu2, .int cu3, .int cu4, .int cu5]))] [])) (va_Qi (fun (r : Int32) (_ : Unit) => r = zz_flt cu0 cu1 p0) (fun _ _ => True) (va_A [] sz)) 0 0 (va_A [] sz) := by
  refine Met.ofW (cc := cX7_fault) (maxL := 2) (ret := (some .int)) (by decide) rfl ?_
  intro p e s m args below meth c s₁ B hml hv
  obtain ⟨rfl, hsz, hP, hK, hD0, hN⟩ := hv
  have hx := B.exec
  have hb := B.bytes
  have hr := B.returns
  have hts := atoms_spec (ws := zz_w yX7_fault cX7_fault 2 (some .int)) B.pre
  have hw : ∀ w ∈ zz_all, w.before _ s = true := fun w h => hts w (List.mem_cons_of_mem _ h)
  have hown : s.vm.findClass RX7 = some m.cls := findClass_of_methodNamed B.named
  have hlocks := B.notSynchronized
  subst hsz
  have hD := hD0
  generalize hAe : va_A [] s.heap.size = A
  have hA : ∀ q : Nat, s.heap.size ≤ q → A q := fun q h => by rw [← hAe]; exact Or.inr h
  have hS : va_S A s.heap s.heap [] := va_S.rf
  have hP : va_P (dC, dI) vwCl [(a 0, .inr (7, [.ref (a 1), .ref (a 10), .ref (a 23), .ref (a 24), .ref (a 26), .ref (a 29), .ref (a 34), .ref (a 43), .int (nI nh), .int (nI nf), .int clk, .int hi])), (a 26, .inr (0, [.ref (a 27), .ref (a 28), .int cu0, .int cu1, .int cu2, .int cu3, .int cu4, .int cu5]))] s.heap := hP
  have hl := lv_entry ([.ref (a 0), .int p0]) (n := 2) (Nat.le_of_ble_eq_true rfl)
  rw [lg_entry_eq]
  generalize (lg_sl ([.ref (a 0), .int p0]) ++ List.replicate (2 - (lg_sl ([.ref (a 0), .int p0])).length) Slot.unset).toArray = ls at hl ⊢
  have hl : lv_has ls 2 [(0, .ref (a 0)), (1, .int p0)] := hl
  refine lv_iload_n hx hb dX7_fault_0 rfl (lv_at hl 1 rfl) ?_
  by_cases c_1 : p0 = 0
  · have zc_1 := c_1
    rw [← Int32.toInt_inj] at zc_1
    try rw [show (0 : Int32).toInt = 0 from by decide] at zc_1
    refine lv_lookup (off := 27) (tgt := 28) hx hb dX7_fault_1 (by decide) (by rw [c_1]; decide) (by decide) ?_
    refine lv_aload_n hx hb dX7_fault_28 rfl (lv_at hl 0 rfl) ?_
    refine va_get (D := (dC, dI)) (ci := 7) (v := .ref (a 26)) (C := RX7) (T := TX7) (N := 12) hx hb hw zz_inX7 hown hK hP 0 rfl rfl 4 (by decide) (hw _ tw_45) (fun _ h9 => h9) rfl dX7_fault_29 ?_
    refine va_getN (D := (dC, dI)) (ci := 0) (v := .int cu0) (C := RX0) (T := TX0) (N := 8) hx hb hw zz_inX0 hown hK hP 1 rfl rfl 2 (by decide) (hN.use zz_n27) (fun _ h9 => h9) rfl dX7_fault_32 ?_
    exact W.iret (v := cu0) hx hb hr (fun t ht hW => ⟨⟨cu0, (), rfl, (zz_flt0 c_1).symm, trivial⟩, hS.F ht⟩) hS.2.2 dX7_fault_35
  by_cases c_2 : p0 = 1
  · have zc_2 := c_2
    rw [← Int32.toInt_inj] at zc_2
    try rw [show (1 : Int32).toInt = 1 from by decide] at zc_2
    refine lv_lookup (off := 35) (tgt := 36) hx hb dX7_fault_1 (by decide) (by rw [c_2]; decide) (by decide) ?_
    refine lv_aload_n hx hb dX7_fault_36 rfl (lv_at hl 0 rfl) ?_
    refine va_get (D := (dC, dI)) (ci := 7) (v := .ref (a 26)) (C := RX7) (T := TX7) (N := 12) hx hb hw zz_inX7 hown hK hP 0 rfl rfl 4 (by decide) (hw _ tw_45) (fun _ h9 => h9) rfl dX7_fault_37 ?_
    refine va_getN (D := (dC, dI)) (ci := 0) (v := .int cu1) (C := RX0) (T := TX0) (N := 8) hx hb hw zz_inX0 hown hK hP 1 rfl rfl 3 (by decide) (hN.use zz_n28) (fun _ h9 => h9) rfl dX7_fault_40 ?_
    exact W.iret (v := cu1) hx hb hr (fun t ht hW => ⟨⟨cu1, (), rfl, (zz_flt1 (by rw [c_2]; decide) c_2).symm, trivial⟩, hS.F ht⟩) hS.2.2 dX7_fault_43
  refine lv_lookup (off := 43) (tgt := 44) hx hb dX7_fault_1 (by decide) (by have n_0 := zz_ne c_1; rw [show (0 : Int32).toInt = 0 from by decide] at n_0; have n_1 := zz_ne c_2; rw [show (1 : Int32).toInt = 1 from by decide] at n_1; simp [Op.lookupswitch.offset, n_0, Ne.symm n_0, n_1, Ne.symm n_1]) (by decide) ?_
  have zc_1 := c_1
  rw [← Int32.toInt_inj] at zc_1
  try rw [show (0 : Int32).toInt = 0 from by decide] at zc_1
  have zc_2 := c_2
  rw [← Int32.toInt_inj] at zc_2
  try rw [show (1 : Int32).toInt = 1 from by decide] at zc_2
  refine lv_iconst (v := (-1)) hx hb dX7_fault_44 (by decide) ?_
  exact W.iret (v := (-1)) hx hb hr (fun t ht hW => ⟨⟨(-1), (), rfl, (zz_flt2 c_1 c_2).symm, trivial⟩, hS.F ht⟩) hS.2.2 dX7_fault_45
set_option maxHeartbeats 4000000 in
set_option maxRecDepth 100000 in
theorem mx_fault (l : Launch) (dC : Nat → ClassId) (dI : Nat → Nat → Nat) (b : Nat → Nat) (gg : Nat → Int32) (mt : Nat) (mc : Nat) (mh : Nat) (mf : Nat) (md : Nat) (p0 : Int32) (sz : Nat) : Met l yX8_fault (zz_w yX8_fault cX8_fault 2 (some .int)) ({ frames := 0, cells := 0, slots := 0, locals := 0 }) (va_Pc [.ref (b 0), .int p0] (zz_B (dC, dI) sz [(b 0, .inr (8, [.ref (b 1), .int (nI mt), .int (gg 2), .int (gg 3), .int (gg 4), .int (gg 5), .int (gg 6), .int (gg 7), .int (gg 8), .int (gg 9), .ref (b 11), .ref (b 12), .ref (b 13), .int (nI mc), .int (nI mh), .ref (b 16), .ref (b 17), .ref (b 18), .ref (b 19), .ref (b 20), .ref (b 21), .ref (b 22), .ref (b 23), .ref (b 24), .int (nI mf), .ref (b 26), .ref (b 27), .ref (b 28), .ref (b 29), .ref (b 30), .ref (b 31), .ref (b 32), .int (gg 32), .int (nI md), .ref (b 35), .ref (b 36), .ref (b 37), .ref (b 38), .ref (b 39), .ref (b 40), .int (gg 40), .ref (b 42), .ref (b 43), .ref (b 44), .int (gg 44), .ref (b 46), .ref (b 47), .int (gg 47), .ref (b 49)]))] [])) (va_Qi (fun (r : Int32) (_ : Unit) => r = zz_flt (gg 8) (gg 9) p0) (fun _ _ => True) (va_A [] sz)) 0 0 (va_A [] sz) := by
  refine Met.ofW (cc := cX8_fault) (maxL := 2) (ret := (some .int)) (by decide) rfl ?_
  intro p e s m args below meth c s₁ B hml hv
  obtain ⟨rfl, hsz, hP, hK, hD0, hN⟩ := hv
  have hx := B.exec
  have hb := B.bytes
  have hr := B.returns
  have hts := atoms_spec (ws := zz_w yX8_fault cX8_fault 2 (some .int)) B.pre
  have hw : ∀ w ∈ zz_all, w.before _ s = true := fun w h => hts w (List.mem_cons_of_mem _ h)
  have hown : s.vm.findClass RX8 = some m.cls := findClass_of_methodNamed B.named
  have hlocks := B.notSynchronized
  subst hsz
  have hD := hD0
  generalize hAe : va_A [] s.heap.size = A
  have hA : ∀ q : Nat, s.heap.size ≤ q → A q := fun q h => by rw [← hAe]; exact Or.inr h
  have hS : va_S A s.heap s.heap [] := va_S.rf
  have hP : va_P (dC, dI) vwCl [(b 0, .inr (8, [.ref (b 1), .int (nI mt), .int (gg 2), .int (gg 3), .int (gg 4), .int (gg 5), .int (gg 6), .int (gg 7), .int (gg 8), .int (gg 9), .ref (b 11), .ref (b 12), .ref (b 13), .int (nI mc), .int (nI mh), .ref (b 16), .ref (b 17), .ref (b 18), .ref (b 19), .ref (b 20), .ref (b 21), .ref (b 22), .ref (b 23), .ref (b 24), .int (nI mf), .ref (b 26), .ref (b 27), .ref (b 28), .ref (b 29), .ref (b 30), .ref (b 31), .ref (b 32), .int (gg 32), .int (nI md), .ref (b 35), .ref (b 36), .ref (b 37), .ref (b 38), .ref (b 39), .ref (b 40), .int (gg 40), .ref (b 42), .ref (b 43), .ref (b 44), .int (gg 44), .ref (b 46), .ref (b 47), .int (gg 47), .ref (b 49)]))] s.heap := hP
  have hl := lv_entry ([.ref (b 0), .int p0]) (n := 2) (Nat.le_of_ble_eq_true rfl)
  rw [lg_entry_eq]
  generalize (lg_sl ([.ref (b 0), .int p0]) ++ List.replicate (2 - (lg_sl ([.ref (b 0), .int p0])).length) Slot.unset).toArray = ls at hl ⊢
  have hl : lv_has ls 2 [(0, .ref (b 0)), (1, .int p0)] := hl
  refine lv_iload_n hx hb dX8_fault_0 rfl (lv_at hl 1 rfl) ?_
  refine lv_if_ne (tgt := 11) hx hb dX8_fault_1 (by decide) (fun c_1 => ?_) (fun c_1 => ?_)
  · have zc_1 := c_1
    rw [← Int32.toInt_inj] at zc_1
    try rw [show (0 : Int32).toInt = 0 from by decide] at zc_1
    refine lv_iload_n hx hb dX8_fault_11 rfl (lv_at hl 1 rfl) ?_
    refine lv_iconst (v := 1) hx hb dX8_fault_12 (by decide) ?_
    refine lv_icmp_ne (tgt := 23) hx hb dX8_fault_13 (by decide) (fun c_2 => ?_) (fun c_2 => ?_)
    · have zc_2 := c_2
      rw [← Int32.toInt_inj] at zc_2
      try rw [show (1 : Int32).toInt = 1 from by decide] at zc_2
      refine lv_iconst (v := (-1)) hx hb dX8_fault_23 (by decide) ?_
      exact W.iret (v := (-1)) hx hb hr (fun t ht hW => ⟨⟨(-1), (), rfl, (zz_flt2 c_1 c_2).symm, trivial⟩, hS.F ht⟩) hS.2.2 dX8_fault_24
    · have zc_2 := c_2
      rw [← Int32.toInt_inj] at zc_2
      try rw [show (1 : Int32).toInt = 1 from by decide] at zc_2
      refine lv_aload_n hx hb dX8_fault_16 rfl (lv_at hl 0 rfl) ?_
      refine va_get (D := (dC, dI)) (ci := 8) (v := .int (gg 9)) (C := RX8) (T := TX8) (N := 49) hx hb hw zz_inX8 hown hK hP 0 rfl rfl 9 (by decide) (hw _ tw_215) (fun _ h9 => h9) rfl dX8_fault_17 ?_
      refine lv_goto (tgt := 24) hx hb dX8_fault_20 (by decide) ?_
      exact W.iret (v := (gg 9)) hx hb hr (fun t ht hW => ⟨⟨(gg 9), (), rfl, (zz_flt1 (by rw [c_2]; decide) c_2).symm, trivial⟩, hS.F ht⟩) hS.2.2 dX8_fault_24
  · have zc_1 := c_1
    rw [← Int32.toInt_inj] at zc_1
    try rw [show (0 : Int32).toInt = 0 from by decide] at zc_1
    refine lv_aload_n hx hb dX8_fault_4 rfl (lv_at hl 0 rfl) ?_
    refine va_get (D := (dC, dI)) (ci := 8) (v := .int (gg 8)) (C := RX8) (T := TX8) (N := 49) hx hb hw zz_inX8 hown hK hP 0 rfl rfl 8 (by decide) (hw _ tw_216) (fun _ h9 => h9) rfl dX8_fault_5 ?_
    refine lv_goto (tgt := 24) hx hb dX8_fault_8 (by decide) ?_
    exact W.iret (v := (gg 8)) hx hb hr (fun t ht hW => ⟨⟨(gg 8), (), rfl, (zz_flt0 c_1).symm, trivial⟩, hS.F ht⟩) hS.2.2 dX8_fault_24
set_option maxHeartbeats 4000000 in
set_option maxRecDepth 100000 in
theorem kx_says (l : Launch) (dC : Nat → ClassId) (dI : Nat → Nat → Nat) (a : Nat → Nat) (nh : Nat) (nf : Nat) (clk : Int32) (hi : Int32) (cI : ClassId) (cu0 : Int32) (cu1 : Int32) (cu2 : Int32) (cu3 : Int32) (cu4 : Int32) (cu5 : Int32) (ft : Nat → Int32) (p0 : Int32) (sz : Nat) : Met l yX7_says (zz_w yX7_says cX7_says 2 (some .int)) ({ frames := 1, cells := 0, slots := 0, locals := 22 }) (va_Pc [.ref (a 0), .int p0] (zz_B (dC, dI) sz [(a 0, .inr (7, [.ref (a 1), .ref (a 10), .ref (a 23), .ref (a 24), .ref (a 26), .ref (a 29), .ref (a 34), .ref (a 43), .int (nI nh), .int (nI nf), .int clk, .int hi])), (a 26, .inr (0, [.ref (a 27), .ref (a 28), .int cu0, .int cu1, .int cu2, .int cu3, .int cu4, .int cu5])), (a 27, .inl (cI, 7, .inl ft))] [(cI, .int)])) (va_Qi (fun (r : Int32) (_ : Unit) => r = zz_sy ft p0) (fun _ _ => True) (va_A [] sz)) 0 0 (va_A [] sz) := by
  refine Met.ofW (cc := cX7_says) (maxL := 2) (ret := (some .int)) (by decide) rfl ?_
  intro p e s m args below meth c s₁ B hml hv
  obtain ⟨rfl, hsz, hP, hK, hD0, hN⟩ := hv
  have hx := B.exec
  have hb := B.bytes
  have hr := B.returns
  have hts := atoms_spec (ws := zz_w yX7_says cX7_says 2 (some .int)) B.pre
  have hw : ∀ w ∈ zz_all, w.before _ s = true := fun w h => hts w (List.mem_cons_of_mem _ h)
  have hown : s.vm.findClass RX7 = some m.cls := findClass_of_methodNamed B.named
  have hlocks := B.notSynchronized
  subst hsz
  have hD := hD0
  generalize hAe : va_A [] s.heap.size = A
  have hA : ∀ q : Nat, s.heap.size ≤ q → A q := fun q h => by rw [← hAe]; exact Or.inr h
  have hS : va_S A s.heap s.heap [] := va_S.rf
  have hP : va_P (dC, dI) vwCl [(a 0, .inr (7, [.ref (a 1), .ref (a 10), .ref (a 23), .ref (a 24), .ref (a 26), .ref (a 29), .ref (a 34), .ref (a 43), .int (nI nh), .int (nI nf), .int clk, .int hi])), (a 26, .inr (0, [.ref (a 27), .ref (a 28), .int cu0, .int cu1, .int cu2, .int cu3, .int cu4, .int cu5])), (a 27, .inl (cI, 7, .inl ft))] s.heap := hP
  have hl := lv_entry ([.ref (a 0), .int p0]) (n := 2) (Nat.le_of_ble_eq_true rfl)
  rw [lg_entry_eq]
  generalize (lg_sl ([.ref (a 0), .int p0]) ++ List.replicate (2 - (lg_sl ([.ref (a 0), .int p0])).length) Slot.unset).toArray = ls at hl ⊢
  have hl : lv_has ls 2 [(0, .ref (a 0)), (1, .int p0)] := hl
  refine lv_iload_n hx hb dX7_says_0 rfl (lv_at hl 1 rfl) ?_
  refine lv_iconst (v := 0) hx hb dX7_says_1 (by decide) ?_
  refine lv_bipush (v := 6) hx hb dX7_says_2 (by decide) ?_
  obtain ⟨hPc, hDc⟩ := zz_sub2 (ws' := []) hP hD [] (by decide) rfl
  have hKc := hK.sub (tys' := []) [] rfl
  have hFc := zz_free0 hS hA
  refine va_calli (va_runS (As := [.int p0, .int 0, .int 6]) (rest := []) ⟨hx, hb, hml, hown, hw⟩ (k_within l dC dI p0 0 6 s.heap.size) ⟨callB_of 3 hw (zz_good tw_1) rfl rfl rfl (hw _ tw_2) (hw _ tw_3) (by decide +kernel) ⟨Nat.le_of_ble_eq_true rfl, Nat.le_of_ble_eq_true rfl⟩, (hw _ tw_4)⟩ ⟨zz_blind, zz_pre hPc hKc hDc hN⟩ rfl rfl hl.1 rfl (lv_room (Nat.le_of_ble_eq_true rfl)) dX7_says_4 ⟨Nat.le_of_ble_eq_true rfl, Nat.le_of_ble_eq_true rfl⟩) hS (fun q _ h => hFc q h) hFc (fun r_1 u_1 t H1 locs ht hvm e_1 hB hz1 hk1 hS => ?_)
  try dsimp only at e_1
  have hP := zz_keep hP hk1
  clear hk1 hB ht hvm
  generalize H1 = H at hP hS ⊢
  refine lv_if_eq (tgt := 22) hx hb dX7_says_7 (by decide) (fun c_2 => ?_) (fun c_2 => ?_)
  · have zc_2 := c_2
    rw [e_1, zz_in0, Int32.le_iff_toInt_le, Int32.le_iff_toInt_le] at zc_2
    try rw [show (0 : Int32).toInt = 0 from by decide] at zc_2
    try rw [show (6 : Int32).toInt = 6 from by decide] at zc_2
    refine lv_iconst (v := (-1)) hx hb dX7_says_22 (by decide) ?_
    exact W.iret (v := (-1)) hx hb hr (fun t ht hW => ⟨⟨(-1), (), rfl, (by unfold zz_sy; exact (if_neg (by omega)).symm), trivial⟩, hS.F ht⟩) hS.2.2 dX7_says_23
  · have zc_2 := c_2
    rw [e_1, zz_in0, Int32.le_iff_toInt_le, Int32.le_iff_toInt_le] at zc_2
    try rw [show (0 : Int32).toInt = 0 from by decide] at zc_2
    try rw [show (6 : Int32).toInt = 6 from by decide] at zc_2
    refine lv_aload_n hx hb dX7_says_10 rfl (lv_at hl 0 rfl) ?_
    refine va_get (D := (dC, dI)) (ci := 7) (v := .ref (a 26)) (C := RX7) (T := TX7) (N := 12) hx hb hw zz_inX7 hown hK hP 0 rfl rfl 4 (by decide) (hw _ tw_45) (fun _ h9 => h9) rfl dX7_says_11 ?_
    refine va_getN (D := (dC, dI)) (ci := 0) (v := .ref (a 27)) (C := RX0) (T := TX0) (N := 8) hx hb hw zz_inX0 hown hK hP 1 rfl rfl 0 (by decide) (hN.use zz_n26) (fun _ h9 => h9) rfl dX7_says_14 ?_
    refine lv_iload_n hx hb dX7_says_17 rfl (lv_at hl 1 rfl) ?_
    refine va_iald hx hb hK hP 2 0 rfl rfl (vp_in_iff.mpr (by constructor <;> omega)) dX7_says_18 ?_
    refine lv_goto (tgt := 23) hx hb dX7_says_19 (by decide) ?_
    exact W.iret (v := (ft (Int32.toNatClampNeg p0))) hx hb hr (fun t ht hW => ⟨⟨(ft (Int32.toNatClampNeg p0)), (), rfl, (by unfold zz_sy; exact (if_pos (by omega)).symm), trivial⟩, hS.F ht⟩) hS.2.2 dX7_says_23
set_option maxHeartbeats 4000000 in
set_option maxRecDepth 100000 in
theorem mx_says (l : Launch) (dC : Nat → ClassId) (dI : Nat → Nat → Nat) (b : Nat → Nat) (gg : Nat → Int32) (mt : Nat) (mc : Nat) (mh : Nat) (mf : Nat) (md : Nat) (cI : ClassId) (cm : Nat → Int32) (p0 : Int32) (sz : Nat) : Met l yX8_says (zz_w yX8_says cX8_says 2 (some .int)) ({ frames := 1, cells := 0, slots := 0, locals := 25 }) (va_Pc [.ref (b 0), .int p0] (zz_B (dC, dI) sz [(b 0, .inr (8, [.ref (b 1), .int (nI mt), .int (gg 2), .int (gg 3), .int (gg 4), .int (gg 5), .int (gg 6), .int (gg 7), .int (gg 8), .int (gg 9), .ref (b 11), .ref (b 12), .ref (b 13), .int (nI mc), .int (nI mh), .ref (b 16), .ref (b 17), .ref (b 18), .ref (b 19), .ref (b 20), .ref (b 21), .ref (b 22), .ref (b 23), .ref (b 24), .int (nI mf), .ref (b 26), .ref (b 27), .ref (b 28), .ref (b 29), .ref (b 30), .ref (b 31), .ref (b 32), .int (gg 32), .int (nI md), .ref (b 35), .ref (b 36), .ref (b 37), .ref (b 38), .ref (b 39), .ref (b 40), .int (gg 40), .ref (b 42), .ref (b 43), .ref (b 44), .int (gg 44), .ref (b 46), .ref (b 47), .int (gg 47), .ref (b 49)])), (b 13, .inl (cI, 7, .inl cm))] [(cI, .int)])) (va_Qi (fun (r : Int32) (_ : Unit) => r = zz_sy cm p0) (fun _ _ => True) (va_A [] sz)) 0 0 (va_A [] sz) := by
  refine Met.ofW (cc := cX8_says) (maxL := 2) (ret := (some .int)) (by decide) rfl ?_
  intro p e s m args below meth c s₁ B hml hv
  obtain ⟨rfl, hsz, hP, hK, hD0, hN⟩ := hv
  have hx := B.exec
  have hb := B.bytes
  have hr := B.returns
  have hts := atoms_spec (ws := zz_w yX8_says cX8_says 2 (some .int)) B.pre
  have hw : ∀ w ∈ zz_all, w.before _ s = true := fun w h => hts w (List.mem_cons_of_mem _ h)
  have hown : s.vm.findClass RX8 = some m.cls := findClass_of_methodNamed B.named
  have hlocks := B.notSynchronized
  subst hsz
  have hD := hD0
  generalize hAe : va_A [] s.heap.size = A
  have hA : ∀ q : Nat, s.heap.size ≤ q → A q := fun q h => by rw [← hAe]; exact Or.inr h
  have hS : va_S A s.heap s.heap [] := va_S.rf
  have hP : va_P (dC, dI) vwCl [(b 0, .inr (8, [.ref (b 1), .int (nI mt), .int (gg 2), .int (gg 3), .int (gg 4), .int (gg 5), .int (gg 6), .int (gg 7), .int (gg 8), .int (gg 9), .ref (b 11), .ref (b 12), .ref (b 13), .int (nI mc), .int (nI mh), .ref (b 16), .ref (b 17), .ref (b 18), .ref (b 19), .ref (b 20), .ref (b 21), .ref (b 22), .ref (b 23), .ref (b 24), .int (nI mf), .ref (b 26), .ref (b 27), .ref (b 28), .ref (b 29), .ref (b 30), .ref (b 31), .ref (b 32), .int (gg 32), .int (nI md), .ref (b 35), .ref (b 36), .ref (b 37), .ref (b 38), .ref (b 39), .ref (b 40), .int (gg 40), .ref (b 42), .ref (b 43), .ref (b 44), .int (gg 44), .ref (b 46), .ref (b 47), .int (gg 47), .ref (b 49)])), (b 13, .inl (cI, 7, .inl cm))] s.heap := hP
  have hl := lv_entry ([.ref (b 0), .int p0]) (n := 2) (Nat.le_of_ble_eq_true rfl)
  rw [lg_entry_eq]
  generalize (lg_sl ([.ref (b 0), .int p0]) ++ List.replicate (2 - (lg_sl ([.ref (b 0), .int p0])).length) Slot.unset).toArray = ls at hl ⊢
  have hl : lv_has ls 2 [(0, .ref (b 0)), (1, .int p0)] := hl
  refine lv_iload_n hx hb dX8_says_0 rfl (lv_at hl 1 rfl) ?_
  refine lv_i2l (v := Int32.toInt64 p0) hx hb dX8_says_1 rfl ?_
  refine lv_lconst (v := Int32.toInt64 0) hx hb dX8_says_2 (by decide) ?_
  refine lv_ldc2 (v := 6) hx hb hown (hw _ tw_217) dX8_says_3 ?_
  refine zz_setl (Int32.toInt64 6) (by decide) ?_
  obtain ⟨hPc, hDc⟩ := zz_sub2 (ws' := []) hP hD [] (by decide) rfl
  have hKc := hK.sub (tys' := []) [] rfl
  have hFc := zz_free0 hS hA
  refine va_calli (va_runS (As := [.long (Int32.toInt64 p0), .long (Int32.toInt64 0), .long (Int32.toInt64 6)]) (rest := []) ⟨hx, hb, hml, hown, hw⟩ (k_in l dC dI p0 0 6 s.heap.size) ⟨callB_of 3 hw (zz_good tw_183) rfl rfl rfl (hw _ tw_184) (hw _ tw_185) (by decide +kernel) ⟨Nat.le_of_ble_eq_true rfl, Nat.le_of_ble_eq_true rfl⟩, (hw _ tw_186)⟩ ⟨zz_blind, zz_pre hPc hKc hDc hN⟩ rfl rfl hl.1 rfl (lv_room (Nat.le_of_ble_eq_true rfl)) dX8_says_6 ⟨Nat.le_of_ble_eq_true rfl, Nat.le_of_ble_eq_true rfl⟩) hS (fun q _ h => hFc q h) hFc (fun r_1 u_1 t H1 locs ht hvm e_1 hB hz1 hk1 hS => ?_)
  try dsimp only at e_1
  have hP := zz_keep hP hk1
  clear hk1 hB ht hvm
  generalize H1 = H at hP hS ⊢
  refine lv_if_eq (tgt := 21) hx hb dX8_says_9 (by decide) (fun c_2 => ?_) (fun c_2 => ?_)
  · have zc_2 := c_2
    rw [e_1, zz_in0, Int32.le_iff_toInt_le, Int32.le_iff_toInt_le] at zc_2
    try rw [show (0 : Int32).toInt = 0 from by decide] at zc_2
    try rw [show (6 : Int32).toInt = 6 from by decide] at zc_2
    refine lv_iconst (v := (-1)) hx hb dX8_says_21 (by decide) ?_
    exact W.iret (v := (-1)) hx hb hr (fun t ht hW => ⟨⟨(-1), (), rfl, (by unfold zz_sy; exact (if_neg (by omega)).symm), trivial⟩, hS.F ht⟩) hS.2.2 dX8_says_22
  · have zc_2 := c_2
    rw [e_1, zz_in0, Int32.le_iff_toInt_le, Int32.le_iff_toInt_le] at zc_2
    try rw [show (0 : Int32).toInt = 0 from by decide] at zc_2
    try rw [show (6 : Int32).toInt = 6 from by decide] at zc_2
    refine lv_aload_n hx hb dX8_says_12 rfl (lv_at hl 0 rfl) ?_
    refine va_get (D := (dC, dI)) (ci := 8) (v := .ref (b 13)) (C := RX8) (T := TX8) (N := 49) hx hb hw zz_inX8 hown hK hP 0 rfl rfl 12 (by decide) (hw _ tw_218) (fun _ h9 => h9) rfl dX8_says_13 ?_
    refine lv_iload_n hx hb dX8_says_16 rfl (lv_at hl 1 rfl) ?_
    refine va_iald hx hb hK hP 1 0 rfl rfl (vp_in_iff.mpr (by constructor <;> omega)) dX8_says_17 ?_
    refine lv_goto (tgt := 22) hx hb dX8_says_18 (by decide) ?_
    exact W.iret (v := (cm (Int32.toNatClampNeg p0))) hx hb hr (fun t ht hW => ⟨⟨(cm (Int32.toNatClampNeg p0)), (), rfl, (by unfold zz_sy; exact (if_pos (by omega)).symm), trivial⟩, hS.F ht⟩) hS.2.2 dX8_says_22
