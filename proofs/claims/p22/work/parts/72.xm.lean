set_option maxHeartbeats 4000000 in
set_option maxRecDepth 100000 in
theorem mx_lowest (l : Launch) (dC : Nat → ClassId) (dI : Nat → Nat → Nat) (w7 : Nat) (sz : Nat) (hw7 : w7 < 7) : Met l yX8_lowest (zz_w yX8_lowest cX8_lowest 1 (some .int)) ({ frames := 0, cells := 0, slots := 0, locals := 0 }) (va_Pc [.int (nI w7)] (zz_B (dC, dI) sz [] [])) (va_Qi (fun (r : Int32) (_ : Unit) => r = zz_lo7 w7) (fun _ _ => True) (va_A [] sz)) 0 0 (va_A [] sz) := by
  refine Met.ofW (cc := cX8_lowest) (maxL := 1) (ret := (some .int)) (by decide) rfl ?_
  intro p e s m args below meth c s₁ B hml hv
  obtain ⟨rfl, hsz, hP, hK, hD0, hN⟩ := hv
  have hx := B.exec
  have hb := B.bytes
  have hr := B.returns
  have hts := atoms_spec (ws := zz_w yX8_lowest cX8_lowest 1 (some .int)) B.pre
  have hw : ∀ w ∈ zz_all, w.before _ s = true := fun w h => hts w (List.mem_cons_of_mem _ h)
  have hown : s.vm.findClass RX8 = some m.cls := findClass_of_methodNamed B.named
  have hlocks := B.notSynchronized
  subst hsz
  have hD := hD0
  generalize hAe : va_A [] s.heap.size = A
  have hA : ∀ q : Nat, s.heap.size ≤ q → A q := fun q h => by rw [← hAe]; exact Or.inr h
  have hS : va_S A s.heap s.heap [] := va_S.rf
  have hP : va_P (dC, dI) vwCl [] s.heap := hP
  have hl := lv_entry ([.int (nI w7)]) (n := 1) (Nat.le_of_ble_eq_true rfl)
  rw [lg_entry_eq]
  generalize (lg_sl ([.int (nI w7)]) ++ List.replicate (1 - (lg_sl ([.int (nI w7)])).length) Slot.unset).toArray = ls at hl ⊢
  have hl : lv_has ls 1 [(0, .int (nI w7))] := hl
  refine lv_iload_n hx hb dX8_lowest_0 rfl (lv_at hl 0 rfl) ?_
  refine lv_iconst (v := 3) hx hb dX8_lowest_1 (by decide) ?_
  refine lv_icmp_ne (tgt := 9) hx hb dX8_lowest_2 (by decide) (fun c_1 => ?_) (fun c_1 => ?_)
  · have zc_1 := c_1
    rw [← Int32.toInt_inj] at zc_1
    try rw [zz_toInt w7 (by omega)] at zc_1
    try rw [show (3 : Int32).toInt = 3 from by decide] at zc_1
    refine lv_iconst (v := 0) hx hb dX8_lowest_9 (by decide) ?_
    exact W.iret (v := 0) hx hb hr (fun t ht hW => ⟨⟨0, (), rfl, (by rcases (show w7 = 0 ∨ w7 = 1 ∨ w7 = 2 ∨ w7 = 3 ∨ w7 = 4 ∨ w7 = 5 ∨ w7 = 6 by omega) with rfl | rfl | rfl | rfl | rfl | rfl | rfl <;> first | rfl | (exfalso; omega)), trivial⟩, hS.F ht⟩) hS.2.2 dX8_lowest_10
  · have zc_1 := c_1
    rw [← Int32.toInt_inj] at zc_1
    try rw [zz_toInt w7 (by omega)] at zc_1
    try rw [show (3 : Int32).toInt = 3 from by decide] at zc_1
    refine lv_iconst (v := 1) hx hb dX8_lowest_5 (by decide) ?_
    refine lv_goto (tgt := 10) hx hb dX8_lowest_6 (by decide) ?_
    exact W.iret (v := 1) hx hb hr (fun t ht hW => ⟨⟨1, (), rfl, (by rcases (show w7 = 0 ∨ w7 = 1 ∨ w7 = 2 ∨ w7 = 3 ∨ w7 = 4 ∨ w7 = 5 ∨ w7 = 6 by omega) with rfl | rfl | rfl | rfl | rfl | rfl | rfl <;> first | rfl | (exfalso; omega)), trivial⟩, hS.F ht⟩) hS.2.2 dX8_lowest_10
set_option maxHeartbeats 4000000 in
set_option maxRecDepth 100000 in
theorem mx_highest (l : Launch) (dC : Nat → ClassId) (dI : Nat → Nat → Nat) (w7 : Nat) (sz : Nat) (hw7 : w7 < 7) : Met l yX8_highest (zz_w yX8_highest cX8_highest 1 (some .int)) ({ frames := 0, cells := 0, slots := 0, locals := 0 }) (va_Pc [.int (nI w7)] (zz_B (dC, dI) sz [] [])) (va_Qi (fun (r : Int32) (_ : Unit) => r = zz_hi7 w7) (fun _ _ => True) (va_A [] sz)) 0 0 (va_A [] sz) := by
  refine Met.ofW (cc := cX8_highest) (maxL := 1) (ret := (some .int)) (by decide) rfl ?_
  intro p e s m args below meth c s₁ B hml hv
  obtain ⟨rfl, hsz, hP, hK, hD0, hN⟩ := hv
  have hx := B.exec
  have hb := B.bytes
  have hr := B.returns
  have hts := atoms_spec (ws := zz_w yX8_highest cX8_highest 1 (some .int)) B.pre
  have hw : ∀ w ∈ zz_all, w.before _ s = true := fun w h => hts w (List.mem_cons_of_mem _ h)
  have hown : s.vm.findClass RX8 = some m.cls := findClass_of_methodNamed B.named
  have hlocks := B.notSynchronized
  subst hsz
  have hD := hD0
  generalize hAe : va_A [] s.heap.size = A
  have hA : ∀ q : Nat, s.heap.size ≤ q → A q := fun q h => by rw [← hAe]; exact Or.inr h
  have hS : va_S A s.heap s.heap [] := va_S.rf
  have hP : va_P (dC, dI) vwCl [] s.heap := hP
  have hl := lv_entry ([.int (nI w7)]) (n := 1) (Nat.le_of_ble_eq_true rfl)
  rw [lg_entry_eq]
  generalize (lg_sl ([.int (nI w7)]) ++ List.replicate (1 - (lg_sl ([.int (nI w7)])).length) Slot.unset).toArray = ls at hl ⊢
  have hl : lv_has ls 1 [(0, .int (nI w7))] := hl
  refine lv_iload_n hx hb dX8_highest_0 rfl (lv_at hl 0 rfl) ?_
  refine lv_iconst (v := 3) hx hb dX8_highest_1 (by decide) ?_
  refine lv_icmp_lt (tgt := 10) hx hb dX8_highest_2 (by decide) (fun c_1 => ?_) (fun c_1 => ?_)
  · have zc_1 := c_1
    rw [Int32.lt_iff_toInt_lt] at zc_1
    try rw [zz_toInt w7 (by omega)] at zc_1
    try rw [show (3 : Int32).toInt = 3 from by decide] at zc_1
    refine lv_bipush (v := 99) hx hb dX8_highest_10 (by decide) ?_
    refine lv_goto (tgt := 30) hx hb dX8_highest_12 (by decide) ?_
    exact W.iret (v := 99) hx hb hr (fun t ht hW => ⟨⟨99, (), rfl, (by rcases (show w7 = 0 ∨ w7 = 1 ∨ w7 = 2 ∨ w7 = 3 ∨ w7 = 4 ∨ w7 = 5 ∨ w7 = 6 by omega) with rfl | rfl | rfl | rfl | rfl | rfl | rfl <;> first | rfl | (exfalso; omega)), trivial⟩, hS.F ht⟩) hS.2.2 dX8_highest_30
  · have zc_1 := c_1
    rw [Int32.lt_iff_toInt_lt] at zc_1
    try rw [zz_toInt w7 (by omega)] at zc_1
    try rw [show (3 : Int32).toInt = 3 from by decide] at zc_1
    refine lv_iload_n hx hb dX8_highest_5 rfl (lv_at hl 0 rfl) ?_
    refine lv_iconst (v := 5) hx hb dX8_highest_6 (by decide) ?_
    refine lv_icmp_ne (tgt := 15) hx hb dX8_highest_7 (by decide) (fun c_2 => ?_) (fun c_2 => ?_)
    · have zc_2 := c_2
      rw [← Int32.toInt_inj] at zc_2
      try rw [zz_toInt w7 (by omega)] at zc_2
      try rw [show (5 : Int32).toInt = 5 from by decide] at zc_2
      refine lv_iload_n hx hb dX8_highest_15 rfl (lv_at hl 0 rfl) ?_
      refine lv_bipush (v := 6) hx hb dX8_highest_16 (by decide) ?_
      refine lv_icmp_ne (tgt := 27) hx hb dX8_highest_18 (by decide) (fun c_3 => ?_) (fun c_3 => ?_)
      · have zc_3 := c_3
        rw [← Int32.toInt_inj] at zc_3
        try rw [zz_toInt w7 (by omega)] at zc_3
        try rw [show (6 : Int32).toInt = 6 from by decide] at zc_3
        refine lv_sipush (v := 400) hx hb dX8_highest_27 (by decide) ?_
        exact W.iret (v := 400) hx hb hr (fun t ht hW => ⟨⟨400, (), rfl, (by rcases (show w7 = 0 ∨ w7 = 1 ∨ w7 = 2 ∨ w7 = 3 ∨ w7 = 4 ∨ w7 = 5 ∨ w7 = 6 by omega) with rfl | rfl | rfl | rfl | rfl | rfl | rfl <;> first | rfl | (exfalso; omega)), trivial⟩, hS.F ht⟩) hS.2.2 dX8_highest_30
      · have zc_3 := c_3
        rw [← Int32.toInt_inj] at zc_3
        try rw [zz_toInt w7 (by omega)] at zc_3
        try rw [show (6 : Int32).toInt = 6 from by decide] at zc_3
        refine lv_sipush (v := 999) hx hb dX8_highest_21 (by decide) ?_
        refine lv_goto (tgt := 30) hx hb dX8_highest_24 (by decide) ?_
        exact W.iret (v := 999) hx hb hr (fun t ht hW => ⟨⟨999, (), rfl, (by rcases (show w7 = 0 ∨ w7 = 1 ∨ w7 = 2 ∨ w7 = 3 ∨ w7 = 4 ∨ w7 = 5 ∨ w7 = 6 by omega) with rfl | rfl | rfl | rfl | rfl | rfl | rfl <;> first | rfl | (exfalso; omega)), trivial⟩, hS.F ht⟩) hS.2.2 dX8_highest_30
    · have zc_2 := c_2
      rw [← Int32.toInt_inj] at zc_2
      try rw [zz_toInt w7 (by omega)] at zc_2
      try rw [show (5 : Int32).toInt = 5 from by decide] at zc_2
      refine lv_bipush (v := 99) hx hb dX8_highest_10 (by decide) ?_
      refine lv_goto (tgt := 30) hx hb dX8_highest_12 (by decide) ?_
      exact W.iret (v := 99) hx hb hr (fun t ht hW => ⟨⟨99, (), rfl, (by rcases (show w7 = 0 ∨ w7 = 1 ∨ w7 = 2 ∨ w7 = 3 ∨ w7 = 4 ∨ w7 = 5 ∨ w7 = 6 by omega) with rfl | rfl | rfl | rfl | rfl | rfl | rfl <;> first | rfl | (exfalso; omega)), trivial⟩, hS.F ht⟩) hS.2.2 dX8_highest_30
theorem zz_td_end {cs : Nat → Int32} {n k m2 : Nat} {s2 t2 : Int32} (h : zz_td cs n k m2 s2 t2) (hs : ¬ s2 = 0) (hk : k ≤ n) : k < n := by
  rcases h with ⟨_, _, h⟩ | ⟨h, _⟩ | ⟨h, _⟩ | ⟨h, _⟩
  · exact absurd h hs
  · exact h
  · exact h
  · exact h
theorem zz_mr_w {q : zz_Q} {ist nwc : Nat → Int32} {w : Nat} {x : Int32} (h : zz_mr q ist nwc) (hw : w < 7) (hx : ¬ x = 0) : zz_mr (2, w, zz_ub q.2.2.1 w, q.2.2.2.1, q.2.2.2.2) (upd ist (Int32.toNatClampNeg (nI w)) x) nwc := by
  refine ⟨fun v hv => ?_, h.2⟩
  rw [zz_cl (by omega)]
  show upd ist w x v = 0 ↔ ¬ zz_ub q.2.2.1 w v = true
  unfold zz_ub
  simp only [upd]
  by_cases e : v = w
  · rw [if_pos e, if_pos e]; exact ⟨fun z => absurd z hx, fun z => absurd rfl z⟩
  · rw [if_neg e, if_neg e]; exact h.1 v hv
theorem zz_mr_n {q : zz_Q} {ist nwc : Nat → Int32} {t : Int32} (h : zz_mr q ist nwc) (hw : q.2.1 < 7) : zz_mr (3, q.2.1, q.2.2.1, q.2.2.2.1, upd q.2.2.2.2 q.2.1 t) ist (upd nwc (Int32.toNatClampNeg (nI q.2.1)) t) := by
  refine ⟨h.1, fun v hv => ?_⟩
  rw [zz_cl (by omega)]
  show upd nwc q.2.1 t v = upd q.2.2.2.2 q.2.1 t v
  simp only [upd]
  by_cases e : v = q.2.1
  · rw [if_pos e, if_pos e]
  · rw [if_neg e, if_neg e]; exact h.2 v hv
/-- a clause's end: a flaw, or one clause more and the next token -/
def zz_ce (cs : Nat → Int32) (n ma cl : Nat) (F : Nat × Int32 × zz_Q) (wa : Int32) (m2 : Nat) (k2 s2 t2 w2 a2 : Int32) (i2 n2 : Nat → Int32) : Prop := (¬ w2 = 0 ∧ w2 = nI F.1 ∧ a2 = F.2.1 ∧ m2 ≤ n ∧ ma ≤ m2) ∨ (w2 = 0 ∧ a2 = wa ∧ ma < m2 ∧ m2 ≤ n ∧ ∃ (q : zz_Q) (tp : Nat), tp ≤ n ∧ k2 = nI tp ∧ zz_td cs n tp m2 s2 t2 ∧ zz_bd cs tp ∧ zz_R cs n tp q = F ∧ q.1 = 1 ∧ q.2.2.2.1 = cl + 1 ∧ zz_mr q i2 n2)
theorem zz_td_le {cs : Nat → Int32} {n k m2 : Nat} {s2 t2 : Int32} (h : zz_td cs n k m2 s2 t2) (hk : k ≤ n) : k ≤ m2 ∧ m2 ≤ n := by
  by_cases e : k < n
  · have := zz_td_bd h e; omega
  · rcases h with ⟨a, b, _⟩ | ⟨a, _⟩ | ⟨a, _⟩ | ⟨a, _⟩ <;> omega
theorem zz_nar1 : ¬ vp_nar .boolean 1 = 0 := by decide
