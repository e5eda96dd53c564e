def zz_fr (il ha us : Nat → Int32) (h : Nat) : Int32 := if 0 < (il h).toInt then 0 else ha h - us h
def zz_pc (fl : Nat → Int32) (v d : Int32) : Int32 := v * (100 - fl (Int32.toNatClampNeg (if 9 < d then 9 else d))) / 100
theorem zz_mx9 {x : Int32} (h : 0 ≤ x.toInt) : 0 ≤ (if 9 < x then 9 else x).toInt ∧ (if 9 < x then 9 else x).toInt ≤ 9 := by
  have e9 : (9 : Int32).toInt = 9 := by decide
  by_cases c : (9 : Int32) < x
  · rw [if_pos c, e9]; omega
  · rw [if_neg c]; rw [Int32.lt_iff_toInt_lt, e9] at c; omega
theorem zz_mx0 {x : Int32} (h : 0 ≤ x.toInt) : (if 0 < (if 9 < x then 9 else x) then (if 9 < x then 9 else x) else 0) = (if 9 < x then 9 else x) := by
  have e0 : (0 : Int32).toInt = 0 := by decide
  have hm := zz_mx9 h
  by_cases c : (0 : Int32) < (if 9 < x then 9 else x)
  · rw [if_pos c]
  · rw [if_neg c]
    rw [Int32.lt_iff_toInt_lt, e0] at c
    rw [← Int32.toInt_inj, e0]; omega
set_option maxHeartbeats 4000000 in
set_option maxRecDepth 100000 in
theorem kx_takes (l : Launch) (dC : Nat → ClassId) (dI : Nat → Nat → Nat) (a : Nat → Nat) (V : Nat → Nat → Int32) (vh0 : Nat → Int32) (vh1 : Nat → Int32) (vh2 : Nat → Int32) (vh3 : Nat → Int32) (vh4 : Nat → Int32) (vh5 : Nat → Int32) (vh6 : Nat → Int32) (vh7 : Nat → Int32) (vh8 : Nat → Int32) (vf0 : Nat → Int32) (vf1 : Nat → Int32) (vf2 : Nat → Int32) (vf3 : Nat → Int32) (vf4 : Nat → Int32) (vf5 : Nat → Int32) (vf6 : Nat → Int32) (i : Nat) (p0 : Int32) (p1 : Int32) (L : List Nat) (K : Nat → Nat) (sz : Nat) (hF : ∀ k, k < 12 → a (11 + k) ∈ L ∧ K (a (11 + k)) = 3) (hi12 : i < 12) (hR : zz_RV a V vh0 vh1 vh2 vh3 vh4 vh5 vh6 vh7 vh8 vf0 vf1 vf2 vf3 vf4 vf5 vf6) : Met l yX3_takes (zz_w yX3_takes cX3_takes 3 (some .boolean)) ({ frames := 0, cells := 0, slots := 0, locals := 0 }) (va_Pc [.ref (a (11 + i)), .int p0, .int p1] (zz_B (dC, dI) sz (([] : va_W) ++ va_pl L (zz_F K V)) [])) (va_Qi (fun (r : Int32) (_ : Unit) => (r = 1 ∧ ((vf3 i).toInt ≤ p1.toInt ∧ 1 ≤ p0.toInt ∧ p0.toInt ≤ (vf2 i).toInt)) ∨ (r = 0 ∧ ¬ ((vf3 i).toInt ≤ p1.toInt ∧ 1 ≤ p0.toInt ∧ p0.toInt ≤ (vf2 i).toInt))) (fun _ _ => True) (va_A [] sz)) 0 0 (va_A [] sz) := by
  refine Met.ofW (cc := cX3_takes) (maxL := 3) (ret := (some .boolean)) (by decide) rfl ?_
  intro p e s m args below meth c s₁ B hml hv
  obtain ⟨rfl, hsz, hP, hK, hD0, hN⟩ := hv
  have hx := B.exec
  have hb := B.bytes
  have hr := B.returns
  have hts := atoms_spec (ws := zz_w yX3_takes cX3_takes 3 (some .boolean)) B.pre
  have hw : ∀ w ∈ zz_all, w.before _ s = true := fun w h => hts w (List.mem_cons_of_mem _ h)
  have hown : s.vm.findClass RX3 = some m.cls := findClass_of_methodNamed B.named
  have hlocks := B.notSynchronized
  subst hsz
  have hD := hD0
  generalize hAe : va_A [] s.heap.size = A
  have hA : ∀ q : Nat, s.heap.size ≤ q → A q := fun q h => by rw [← hAe]; exact Or.inr h
  have hS : va_S A s.heap s.heap [] := va_S.rf
  have hP : va_P (dC, dI) vwCl (([] : va_W) ++ va_pl L (zz_F K V)) s.heap := hP
  have hl := lv_entry ([.ref (a (11 + i)), .int p0, .int p1]) (n := 3) (Nat.le_of_ble_eq_true rfl)
  rw [lg_entry_eq]
  generalize (lg_sl ([.ref (a (11 + i)), .int p0, .int p1]) ++ List.replicate (3 - (lg_sl ([.ref (a (11 + i)), .int p0, .int p1])).length) Slot.unset).toArray = ls at hl ⊢
  have hl : lv_has ls 3 [(0, .ref (a (11 + i))), (1, .int p0), (2, .int p1)] := hl
  refine lv_iload_n hx hb dX3_takes_0 rfl (lv_at hl 2 rfl) ?_
  refine lv_aload_n hx hb dX3_takes_1 rfl (lv_at hl 0 rfl) ?_
  obtain ⟨kq_1, hq_1⟩ := zz_pg3 (X := []) (V := V) (hF i hi12).1 (hF i hi12).2
  have hDo := hD
  refine va_get (D := (dC, dI)) (ci := 3) (v := .int (V (a (11 + i)) 3)) (C := RX3) (T := TX3) (N := 7) hx hb hw zz_inX3 hown hK hP kq_1 hq_1 rfl 3 (by decide) (hw _ tw_30) (fun _ h9 => h9) rfl dX3_takes_2 ?_
  refine zz_seti (vf3 i) (zz_RVg3_3 hR hi12) ?_
  refine lv_icmp_lt (tgt := 25) hx hb dX3_takes_5 (by decide) (fun c_2 => ?_) (fun c_2 => ?_)
  · have zc_2 := c_2
    rw [Int32.lt_iff_toInt_lt] at zc_2
    refine lv_iconst (v := 0) hx hb dX3_takes_25 (by decide) ?_
    exact W.zret (v := 0) hx hb hr (rfl) (fun t ht hW => ⟨⟨0, (), rfl, (by first | exact Or.inl ⟨rfl, by omega⟩ | exact Or.inr ⟨rfl, by omega⟩), trivial⟩, hS.F ht⟩) hS.2.2 dX3_takes_26
  · have zc_2 := c_2
    rw [Int32.lt_iff_toInt_lt] at zc_2
    refine lv_iload_n hx hb dX3_takes_8 rfl (lv_at hl 1 rfl) ?_
    refine lv_iconst (v := 1) hx hb dX3_takes_9 (by decide) ?_
    refine lv_icmp_lt (tgt := 25) hx hb dX3_takes_10 (by decide) (fun c_3 => ?_) (fun c_3 => ?_)
    · have zc_3 := c_3
      rw [Int32.lt_iff_toInt_lt] at zc_3
      try rw [show (1 : Int32).toInt = 1 from by decide] at zc_3
      refine lv_iconst (v := 0) hx hb dX3_takes_25 (by decide) ?_
      exact W.zret (v := 0) hx hb hr (rfl) (fun t ht hW => ⟨⟨0, (), rfl, (by first | exact Or.inl ⟨rfl, by omega⟩ | exact Or.inr ⟨rfl, by omega⟩), trivial⟩, hS.F ht⟩) hS.2.2 dX3_takes_26
    · have zc_3 := c_3
      rw [Int32.lt_iff_toInt_lt] at zc_3
      try rw [show (1 : Int32).toInt = 1 from by decide] at zc_3
      refine lv_iload_n hx hb dX3_takes_13 rfl (lv_at hl 1 rfl) ?_
      refine lv_aload_n hx hb dX3_takes_14 rfl (lv_at hl 0 rfl) ?_
      obtain ⟨kq_4, hq_4⟩ := zz_pg3 (X := []) (V := V) (hF i hi12).1 (hF i hi12).2
      have hDo := hD
      refine va_get (D := (dC, dI)) (ci := 3) (v := .int (V (a (11 + i)) 2)) (C := RX3) (T := TX3) (N := 7) hx hb hw zz_inX3 hown hK hP kq_4 hq_4 rfl 2 (by decide) (hw _ tw_31) (fun _ h9 => h9) rfl dX3_takes_15 ?_
      refine zz_seti (vf2 i) (zz_RVg3_2 hR hi12) ?_
      refine lv_icmp_gt (tgt := 25) hx hb dX3_takes_18 (by decide) (fun c_5 => ?_) (fun c_5 => ?_)
      · have zc_5 := c_5
        rw [Int32.lt_iff_toInt_lt] at zc_5
        refine lv_iconst (v := 0) hx hb dX3_takes_25 (by decide) ?_
        exact W.zret (v := 0) hx hb hr (rfl) (fun t ht hW => ⟨⟨0, (), rfl, (by first | exact Or.inl ⟨rfl, by omega⟩ | exact Or.inr ⟨rfl, by omega⟩), trivial⟩, hS.F ht⟩) hS.2.2 dX3_takes_26
      · have zc_5 := c_5
        rw [Int32.lt_iff_toInt_lt] at zc_5
        refine lv_iconst (v := 1) hx hb dX3_takes_21 (by decide) ?_
        refine lv_goto (tgt := 26) hx hb dX3_takes_22 (by decide) ?_
        exact W.zret (v := 1) hx hb hr (rfl) (fun t ht hW => ⟨⟨1, (), rfl, (by first | exact Or.inl ⟨rfl, by omega⟩ | exact Or.inr ⟨rfl, by omega⟩), trivial⟩, hS.F ht⟩) hS.2.2 dX3_takes_26
set_option maxHeartbeats 4000000 in
set_option maxRecDepth 100000 in
theorem kx_freeHands (l : Launch) (dC : Nat → ClassId) (dI : Nat → Nat → Nat) (a : Nat → Nat) (V : Nat → Nat → Int32) (vh0 : Nat → Int32) (vh1 : Nat → Int32) (vh2 : Nat → Int32) (vh3 : Nat → Int32) (vh4 : Nat → Int32) (vh5 : Nat → Int32) (vh6 : Nat → Int32) (vh7 : Nat → Int32) (vh8 : Nat → Int32) (vf0 : Nat → Int32) (vf1 : Nat → Int32) (vf2 : Nat → Int32) (vf3 : Nat → Int32) (vf4 : Nat → Int32) (vf5 : Nat → Int32) (vf6 : Nat → Int32) (i : Nat) (L : List Nat) (K : Nat → Nat) (sz : Nat) (hH : ∀ k, k < 8 → a (2 + k) ∈ L ∧ K (a (2 + k)) = 4) (hi8 : i < 8) (hR : zz_RV a V vh0 vh1 vh2 vh3 vh4 vh5 vh6 vh7 vh8 vf0 vf1 vf2 vf3 vf4 vf5 vf6) : Met l yX4_freeHands (zz_w yX4_freeHands cX4_freeHands 1 (some .int)) ({ frames := 0, cells := 0, slots := 0, locals := 0 }) (va_Pc [.ref (a (2 + i))] (zz_B (dC, dI) sz (([] : va_W) ++ va_pl L (zz_F K V)) [])) (va_Qi (fun (r : Int32) (_ : Unit) => r = zz_fr vh2 vh0 vh3 i) (fun _ _ => True) (va_A [] sz)) 0 0 (va_A [] sz) := by
  refine Met.ofW (cc := cX4_freeHands) (maxL := 1) (ret := (some .int)) (by decide) rfl ?_
  intro p e s m args below meth c s₁ B hml hv
  obtain ⟨rfl, hsz, hP, hK, hD0, hN⟩ := hv
  have hx := B.exec
  have hb := B.bytes
  have hr := B.returns
  have hts := atoms_spec (ws := zz_w yX4_freeHands cX4_freeHands 1 (some .int)) B.pre
  have hw : ∀ w ∈ zz_all, w.before _ s = true := fun w h => hts w (List.mem_cons_of_mem _ h)
  have hown : s.vm.findClass RX4 = some m.cls := findClass_of_methodNamed B.named
  have hlocks := B.notSynchronized
  subst hsz
  have hD := hD0
  generalize hAe : va_A [] s.heap.size = A
  have hA : ∀ q : Nat, s.heap.size ≤ q → A q := fun q h => by rw [← hAe]; exact Or.inr h
  have hS : va_S A s.heap s.heap [] := va_S.rf
  have hP : va_P (dC, dI) vwCl (([] : va_W) ++ va_pl L (zz_F K V)) s.heap := hP
  have hl := lv_entry ([.ref (a (2 + i))]) (n := 1) (Nat.le_of_ble_eq_true rfl)
  rw [lg_entry_eq]
  generalize (lg_sl ([.ref (a (2 + i))]) ++ List.replicate (1 - (lg_sl ([.ref (a (2 + i))])).length) Slot.unset).toArray = ls at hl ⊢
  have hl : lv_has ls 1 [(0, .ref (a (2 + i)))] := hl
  refine lv_aload_n hx hb dX4_freeHands_0 rfl (lv_at hl 0 rfl) ?_
  obtain ⟨kq_1, hq_1⟩ := zz_pg4 (X := []) (V := V) (hH i hi8).1 (hH i hi8).2
  have hDo := hD
  refine va_get (D := (dC, dI)) (ci := 4) (v := .int (V (a (2 + i)) 2)) (C := RX4) (T := TX4) (N := 9) hx hb hw zz_inX4 hown hK hP kq_1 hq_1 rfl 2 (by decide) (hw _ tw_32) (fun _ h9 => h9) rfl dX4_freeHands_1 ?_
  refine zz_seti (vh2 i) (zz_RVg4_2 hR hi8) ?_
  refine lv_if_le (tgt := 11) hx hb dX4_freeHands_4 (by decide) (fun c_2 => ?_) (fun c_2 => ?_)
  · have zc_2 := c_2
    rw [Int32.le_iff_toInt_le] at zc_2
    try rw [show (0 : Int32).toInt = 0 from by decide] at zc_2
    refine lv_aload_n hx hb dX4_freeHands_11 rfl (lv_at hl 0 rfl) ?_
    obtain ⟨kq_3, hq_3⟩ := zz_pg4 (X := []) (V := V) (hH i hi8).1 (hH i hi8).2
    have hDo := hD
    refine va_get (D := (dC, dI)) (ci := 4) (v := .int (V (a (2 + i)) 0)) (C := RX4) (T := TX4) (N := 9) hx hb hw zz_inX4 hown hK hP kq_3 hq_3 rfl 0 (by decide) (hw _ tw_33) (fun _ h9 => h9) rfl dX4_freeHands_12 ?_
    refine zz_seti (vh0 i) (zz_RVg4_0 hR hi8) ?_
    refine lv_aload_n hx hb dX4_freeHands_15 rfl (lv_at hl 0 rfl) ?_
    obtain ⟨kq_4, hq_4⟩ := zz_pg4 (X := []) (V := V) (hH i hi8).1 (hH i hi8).2
    have hDo := hD
    refine va_get (D := (dC, dI)) (ci := 4) (v := .int (V (a (2 + i)) 3)) (C := RX4) (T := TX4) (N := 9) hx hb hw zz_inX4 hown hK hP kq_4 hq_4 rfl 3 (by decide) (hw _ tw_34) (fun _ h9 => h9) rfl dX4_freeHands_16 ?_
    refine zz_seti (vh3 i) (zz_RVg4_3 hR hi8) ?_
    refine lv_isub hx hb dX4_freeHands_19 ?_
    exact W.iret (v := ((vh0 i) - (vh3 i))) hx hb hr (fun t ht hW => ⟨⟨((vh0 i) - (vh3 i)), (), rfl, (by unfold zz_fr; first | exact (if_pos (by omega)).symm | exact (if_neg (by omega)).symm), trivial⟩, hS.F ht⟩) hS.2.2 dX4_freeHands_20
  · have zc_2 := c_2
    rw [Int32.le_iff_toInt_le] at zc_2
    try rw [show (0 : Int32).toInt = 0 from by decide] at zc_2
    refine lv_iconst (v := 0) hx hb dX4_freeHands_7 (by decide) ?_
    refine lv_goto (tgt := 20) hx hb dX4_freeHands_8 (by decide) ?_
    exact W.iret (v := 0) hx hb hr (fun t ht hW => ⟨⟨0, (), rfl, (by unfold zz_fr; first | exact (if_pos (by omega)).symm | exact (if_neg (by omega)).symm), trivial⟩, hS.F ht⟩) hS.2.2 dX4_freeHands_20
set_option maxHeartbeats 4000000 in
set_option maxRecDepth 100000 in
theorem kx_proceedsOf (l : Launch) (dC : Nat → ClassId) (dI : Nat → Nat → Nat) (a : Nat → Nat) (cI : ClassId) (fl : Nat → Int32) (p0 : Int32) (p1 : Int32) (sz : Nat) (hp1 : 0 ≤ p1.toInt) : Met l yX7_proceedsOf (zz_w yX7_proceedsOf cX7_proceedsOf 5 (some .int)) ({ frames := 1, cells := 0, slots := 0, locals := 14 }) (va_Pc [.int p0, .int p1, .ref (a 23)] (zz_B (dC, dI) sz [(a 23, .inl (cI, 10, .inl fl))] [(cI, .int)])) (va_Qi (fun (r : Int32) (_ : Unit) => r = zz_pc fl p0 p1) (fun _ _ => True) (va_A [] sz)) 0 0 (va_A [] sz) := by
  refine Met.ofW (cc := cX7_proceedsOf) (maxL := 5) (ret := (some .int)) (by decide) rfl ?_
  intro p e s m args below meth c s₁ B hml hv
  obtain ⟨rfl, hsz, hP, hK, hD0, hN⟩ := hv
  have hx := B.exec
  have hb := B.bytes
  have hr := B.returns
  have hts := atoms_spec (ws := zz_w yX7_proceedsOf cX7_proceedsOf 5 (some .int)) B.pre
  have hw : ∀ w ∈ zz_all, w.before _ s = true := fun w h => hts w (List.mem_cons_of_mem _ h)
  have hown : s.vm.findClass RX7 = some m.cls := findClass_of_methodNamed B.named
  have hlocks := B.notSynchronized
  subst hsz
  have hD := hD0
  generalize hAe : va_A [] s.heap.size = A
  have hA : ∀ q : Nat, s.heap.size ≤ q → A q := fun q h => by rw [← hAe]; exact Or.inr h
  have hS : va_S A s.heap s.heap [] := va_S.rf
  have hP : va_P (dC, dI) vwCl [(a 23, .inl (cI, 10, .inl fl))] s.heap := hP
  have hl := lv_entry ([.int p0, .int p1, .ref (a 23)]) (n := 5) (Nat.le_of_ble_eq_true rfl)
  rw [lg_entry_eq]
  generalize (lg_sl ([.int p0, .int p1, .ref (a 23)]) ++ List.replicate (5 - (lg_sl ([.int p0, .int p1, .ref (a 23)])).length) Slot.unset).toArray = ls at hl ⊢
  have hl : lv_has ls 5 [(0, .int p0), (1, .int p1), (2, .ref (a 23))] := hl
  refine lv_iconst (v := 0) hx hb dX7_proceedsOf_0 (by decide) ?_
  refine lv_iload_n hx hb dX7_proceedsOf_1 rfl (lv_at hl 1 rfl) ?_
  refine lv_bipush (v := 9) hx hb dX7_proceedsOf_2 (by decide) ?_
  refine va_mmin hx hb (by rw [hml]; exact hl.1.symm) hown (hw _ tw_35) (hw _ tw_27) (hw _ tw_28) (hw _ tw_29) (Nat.le_of_ble_eq_true rfl) (Nat.le_of_ble_eq_true rfl) (Nat.le_of_ble_eq_true rfl) (Nat.le_of_ble_eq_true rfl) dX7_proceedsOf_4 ?_
  refine va_mmax hx hb (by rw [hml]; exact hl.1.symm) hown (hw _ tw_36) (hw _ tw_37) (hw _ tw_28) (hw _ tw_38) (Nat.le_of_ble_eq_true rfl) (Nat.le_of_ble_eq_true rfl) (Nat.le_of_ble_eq_true rfl) (Nat.le_of_ble_eq_true rfl) dX7_proceedsOf_7 ?_
  refine zz_seti (if 9 < p1 then 9 else p1) (zz_mx0 hp1) ?_
  have zk9 := zz_mx9 hp1
  refine lv_topi (fun kk ekk => ?_)
  rw [← ekk] at zk9
  refine lv_istore_n (lv' := [(3, .int kk), (0, .int p0), (1, .int p1), (2, .ref (a 23))]) hx hb dX7_proceedsOf_10 rfl hl (by decide) rfl (fun ls hl => ?_)
  refine lv_iload_n hx hb dX7_proceedsOf_11 rfl (lv_at hl 0 rfl) ?_
  refine lv_aload_n hx hb dX7_proceedsOf_12 rfl (lv_at hl 3 rfl) ?_
  refine va_alen (v := 10) hx hb hK hP 0 0 rfl rfl rfl dX7_proceedsOf_13 ?_
  refine lv_icmp_ge (tgt := 23) hx hb dX7_proceedsOf_14 (by decide) (fun c_1 => ?_) (fun c_1 => ?_)
  · have zc_1 := c_1
    rw [Int32.le_iff_toInt_le] at zc_1
    try rw [show (10 : Int32).toInt = 10 from by decide] at zc_1
    refine lv_iconst (v := 0) hx hb dX7_proceedsOf_23 (by decide) ?_
    refine lv_istore (lv' := [(4, .int 0), (3, .int kk), (0, .int p0), (1, .int p1), (2, .ref (a 23))]) hx hb dX7_proceedsOf_24 hl (by decide) rfl (fun ls hl => ?_)
    refine lv_iload_n hx hb dX7_proceedsOf_26 rfl (lv_at hl 2 rfl) ?_
    refine lv_bipush (v := 100) hx hb dX7_proceedsOf_27 (by decide) ?_
    refine lv_iload hx hb dX7_proceedsOf_29 (lv_at hl 0 rfl) ?_
    refine lv_isub hx hb dX7_proceedsOf_31 ?_
    refine zz_seti 100 (by decide) ?_
    refine lv_imul hx hb dX7_proceedsOf_32 ?_
    refine lv_bipush (v := 100) hx hb dX7_proceedsOf_33 (by decide) ?_
    refine lv_idiv hx hb dX7_proceedsOf_35 (by decide) ?_
    exact W.iret (v := ((p0 * 100) / 100)) hx hb hr (fun t ht hW => ⟨⟨((p0 * 100) / 100), (), rfl, (by first | (rw [ekk]; rfl) | (exfalso; omega)), trivial⟩, hS.F ht⟩) hS.2.2 dX7_proceedsOf_36
  · have zc_1 := c_1
    rw [Int32.le_iff_toInt_le] at zc_1
    try rw [show (10 : Int32).toInt = 10 from by decide] at zc_1
    refine lv_aload_n hx hb dX7_proceedsOf_17 rfl (lv_at hl 3 rfl) ?_
    refine lv_iload_n hx hb dX7_proceedsOf_18 rfl (lv_at hl 0 rfl) ?_
    refine va_iald hx hb hK hP 0 0 rfl rfl (vp_in_iff.mpr (by constructor <;> omega)) dX7_proceedsOf_19 ?_
    refine lv_goto (tgt := 24) hx hb dX7_proceedsOf_20 (by decide) ?_
    refine lv_istore (lv' := [(4, .int (fl (Int32.toNatClampNeg kk))), (3, .int kk), (0, .int p0), (1, .int p1), (2, .ref (a 23))]) hx hb dX7_proceedsOf_24 hl (by decide) rfl (fun ls hl => ?_)
    refine lv_iload_n hx hb dX7_proceedsOf_26 rfl (lv_at hl 2 rfl) ?_
    refine lv_bipush (v := 100) hx hb dX7_proceedsOf_27 (by decide) ?_
    refine lv_iload hx hb dX7_proceedsOf_29 (lv_at hl 0 rfl) ?_
    refine lv_isub hx hb dX7_proceedsOf_31 ?_
    refine lv_imul hx hb dX7_proceedsOf_32 ?_
    refine lv_bipush (v := 100) hx hb dX7_proceedsOf_33 (by decide) ?_
    refine lv_idiv hx hb dX7_proceedsOf_35 (by decide) ?_
    exact W.iret (v := ((p0 * (100 - (fl (Int32.toNatClampNeg kk)))) / 100)) hx hb hr (fun t ht hW => ⟨⟨((p0 * (100 - (fl (Int32.toNatClampNeg kk)))) / 100), (), rfl, (by first | (rw [ekk]; rfl) | (exfalso; omega)), trivial⟩, hS.F ht⟩) hS.2.2 dX7_proceedsOf_36
