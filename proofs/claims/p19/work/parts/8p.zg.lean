/-- sets below k have their groups counted -/
def zz_RK (N e3 e4 : Nat → Int32) (k : Nat) : Prop := e4 0 = 0 ∧ (∀ s : Nat, s < k → 0 ≤ (e4 s).toInt ∧ (e4 s).toInt ≤ (s : Int)) ∧ (∀ s : Nat, 1 ≤ s → s < k → s < 256 → e3 s = Int32.ofInt (zz_is N s 8) ∧ ∃ m : Int, (∀ h : Nat, h < 8 → s.testBit h = true → (e4 (s - 2 ^ h)).toInt ≤ m) ∧ (∃ h : Nat, h < 8 ∧ s.testBit h = true ∧ (e4 (s - 2 ^ h)).toInt = m) ∧ (e4 s).toInt = m + (if Int32.ofInt (zz_is N s 8) = 0 then 1 else 0))
theorem zz_RK_1 {N e3 e4 : Nat → Int32} (h : e4 0 = 0) : zz_RK N e3 e4 1 := by
  refine ⟨h, fun s hs => ?_, fun s h1 h2 => absurd h1 (by omega)⟩
  rw [show s = 0 by omega, h, show (0 : Int32).toInt = 0 from by decide]; omega
theorem zz_RK_end {N e3 e4 : Nat → Int32} (hb : ∀ p : Nat, -930000000 ≤ zz_is N p 8 ∧ zz_is N p 8 ≤ 930000000) (h : zz_RK N e3 e4 256) : zz_RC N (fun s => (e4 s).toInt) ∧ (∀ s : Nat, 1 ≤ s → s < 256 → e3 s = Int32.ofInt (zz_is N s 8)) ∧ (∀ s : Nat, s < 256 → 0 ≤ (e4 s).toInt ∧ (e4 s).toInt ≤ 255) := by
  refine ⟨⟨by show (e4 0).toInt = 0; rw [h.1]; decide, fun s h1 h2 => ?_⟩, fun s h1 h2 => (h.2.2 s h1 h2 h2).1, fun s hs => by have := h.2.1 s hs; omega⟩
  obtain ⟨m, m1, m2, m3⟩ := (h.2.2 s h1 h2 h2).2
  refine ⟨m, m1, m2, ?_⟩
  show (e4 s).toInt = _
  rw [m3]
  have b := hb s
  by_cases z : zz_is N s 8 = 0
  · rw [if_pos z, if_pos (by rw [z]; decide)]
  · rw [if_neg z, if_neg (fun q => z (zz_oi_z (by omega) (by omega) q))]
theorem zz_RK_s {N e3 e4 : Nat → Int32} {j : Nat} {y x v : Int32} (h : zz_RK N e3 e4 j) (hj : 1 ≤ j) (hj8 : j < 256) (hy : y = Int32.ofInt (zz_is N j 8)) (x1 : ∀ h : Nat, h < 8 → j.testBit h = true → (e4 (j - 2 ^ h)).toInt ≤ x.toInt) (x2 : x = 0 ∨ ∃ h : Nat, h < 8 ∧ j.testBit h = true ∧ (e4 (j - 2 ^ h)) = x) (hv : v = if y = 0 then x + 1 else x) : zz_RK N (upd e3 (Int32.toNatClampNeg (nI j)) y) (upd e4 (Int32.toNatClampNeg (nI j)) v) (j + 1) := by
  rw [zz_cl (by omega)]
  have e0 : (0 : Int32).toInt = 0 := by decide
  have low : ∀ s i : Nat, s < 256 → s < j + 1 → s.testBit i = true → upd e4 j v (s - 2 ^ i) = e4 (s - 2 ^ i) := fun s i hs h1 hi => zz_up_n (by have := zz_subl hs (zz_p2s hi) (Nat.one_le_two_pow); omega)
  obtain ⟨hb, hb1, hb2⟩ := zz_one_bit hj8 hj
  have xm : ∃ h : Nat, h < 8 ∧ j.testBit h = true ∧ (e4 (j - 2 ^ h)).toInt = x.toInt := by
    rcases x2 with z | ⟨k, k1, k2, k3⟩
    · refine ⟨hb, hb1, hb2, ?_⟩
      have a := x1 hb hb1 hb2
      have b := (h.2.1 (j - 2 ^ hb) (by have := zz_subl hj8 (zz_p2s hb2) (Nat.one_le_two_pow); omega)).1
      rw [z, e0] at a ⊢; omega
    · exact ⟨k, k1, k2, by rw [k3]⟩
  have xr : 0 ≤ x.toInt ∧ x.toInt + 1 ≤ (j : Int) := by
    obtain ⟨k, k1, k2, k3⟩ := xm
    have l := zz_subl hj8 (zz_p2s k2) (Nat.one_le_two_pow)
    have b := h.2.1 (j - 2 ^ k) (by omega)
    omega
  have ev : v.toInt = x.toInt + (if y = 0 then 1 else 0) := by
    rw [hv]
    by_cases z : y = 0
    · rw [if_pos z, if_pos z, Int32.toInt_add, show (1 : Int32).toInt = 1 from by decide]
      rw [Int.bmod_eq_of_le] <;> omega
    · rw [if_neg z, if_neg z]; omega
  refine ⟨by rw [zz_up_n (by omega)]; exact h.1, fun s hs => ?_, fun s s1 s2 s3 => ?_⟩
  · by_cases e : s = j
    · rw [e, zz_up_s, ev]; split <;> omega
    · rw [zz_up_n e]; exact h.2.1 s (by omega)
  · by_cases e : s = j
    · subst e
      rw [zz_up_s, zz_up_s]
      obtain ⟨k, k1, k2, k3⟩ := xm
      refine ⟨hy, x.toInt, fun i hi ib => by rw [low s i s3 s2 ib]; exact x1 i hi ib, ⟨k, k1, k2, by rw [low s k s3 s2 k2]; exact k3⟩, ?_⟩
      rw [ev, hy]
    · rw [zz_up_n e, zz_up_n e]
      obtain ⟨q, m, m1, ⟨k, k1, k2, k3⟩, m3⟩ := h.2.2 s s1 (by omega) s3
      exact ⟨q, m, fun i hi ib => by rw [low s i s3 s2 ib]; exact m1 i hi ib, ⟨k, k1, k2, by rw [low s k s3 s2 k2]; exact k3⟩, m3⟩
theorem zz_mx2 {x v : Int32} {P : Nat → Prop} {f : Nat → Int32} {i : Nat} (x1 : ∀ h : Nat, h < i → P h → (f h).toInt ≤ x.toInt) (hv : v = f i) (hp : P i) : ∀ h : Nat, h < i + 1 → P h → (f h).toInt ≤ (if x < v then v else x).toInt := by
  intro h hh ph
  by_cases c : x < v
  · rw [if_pos c]
    rw [Int32.lt_iff_toInt_lt] at c
    by_cases e : h = i
    · rw [e, hv]; exact Int.le_refl _
    · have := x1 h (by omega) ph; omega
  · rw [if_neg c]
    rw [Int32.lt_iff_toInt_lt] at c
    by_cases e : h = i
    · rw [e, ← hv]; omega
    · exact x1 h (by omega) ph
theorem zz_mx3 {x v : Int32} {P : Nat → Prop} {f : Nat → Int32} {i : Nat} (x2 : x = 0 ∨ ∃ h : Nat, h < i ∧ P h ∧ f h = x) (hv : v = f i) (hp : P i) : (if x < v then v else x) = 0 ∨ ∃ h : Nat, h < i + 1 ∧ P h ∧ f h = (if x < v then v else x) := by
  by_cases c : x < v
  · rw [if_pos c]; exact Or.inr ⟨i, by omega, hp, hv.symm⟩
  · rw [if_neg c]
    rcases x2 with z | ⟨h, h1, h2, h3⟩
    · exact Or.inl z
    · exact Or.inr ⟨h, by omega, h2, h3⟩
theorem zz_mx0b {x : Int32} {P : Nat → Prop} {f : Nat → Int32} {i : Nat} (x1 : ∀ h : Nat, h < i → P h → (f h).toInt ≤ x.toInt) (hn : ¬ P i) : ∀ h : Nat, h < i + 1 → P h → (f h).toInt ≤ x.toInt := by
  intro h hh ph
  by_cases e : h = i
  · rw [e] at ph; exact absurd ph hn
  · exact x1 h (by omega) ph
theorem zz_mx0c {x : Int32} {P : Nat → Prop} {f : Nat → Int32} {i : Nat} (x2 : x = 0 ∨ ∃ h : Nat, h < i ∧ P h ∧ f h = x) : x = 0 ∨ ∃ h : Nat, h < i + 1 ∧ P h ∧ f h = x := by
  rcases x2 with z | ⟨h, h1, h2, h3⟩
  · exact Or.inl z
  · exact Or.inr ⟨h, by omega, h2, h3⟩
set_option maxHeartbeats 4000000 in
set_option maxRecDepth 100000 in
theorem kx_countGroups (l : Launch) (dC : Nat → ClassId) (dI : Nat → Nat → Nat) (a : Nat → Nat) (cI : ClassId) (ne : Nat) (e0 : Nat → Int32) (e3 : Nat → Int32) (e4 : Nat → Int32) (sz : Nat) (he40 : e4 0 = 0) : Met l yX2_countGroups (zz_w yX2_countGroups cX2_countGroups 5 none) ({ frames := 1, cells := 0, slots := 0, locals := 13 }) (va_Pc [.ref (a 34)] (zz_B (dC, dI) sz [(a 34, .inr (2, [.ref (a 35), .ref (a 36), .ref (a 37), .ref (a 38), .ref (a 39), .ref (a 40), .ref (a 41), .ref (a 42), .int (nI ne)])), (a 35, .inl (cI, 8, .inl e0)), (a 38, .inl (cI, 256, .inl e3)), (a 39, .inl (cI, 256, .inl e4))] [(cI, .int)])) (va_Qv (fun (u : (Nat → Int32) × (Nat → Int32)) => match u with | (g3, g4) => zz_RK e0 g3 g4 256) (fun (u : (Nat → Int32) × (Nat → Int32)) (t : State) => match u with | (u0, u1) => va_P (dC, dI) vwCl [(a 34, .inr (2, [.ref (a 35), .ref (a 36), .ref (a 37), .ref (a 38), .ref (a 39), .ref (a 40), .ref (a 41), .ref (a 42), .int (nI ne)])), (a 35, .inl (cI, 8, .inl e0)), (a 38, .inl (cI, 256, .inl u0)), (a 39, .inl (cI, 256, .inl u1))] t.heap ∧ va_K (dC, dI) vwCl [(cI, .int)] t ∧ va_D (va_A [(a 34, .inr (2, [.ref (a 35), .ref (a 36), .ref (a 37), .ref (a 38), .ref (a 39), .ref (a 40), .ref (a 41), .ref (a 42), .int (nI ne)])), (a 35, .inl (cI, 8, .inl e0)), (a 38, .inl (cI, 256, .inl e3)), (a 39, .inl (cI, 256, .inl e4))] sz) [(a 34, .inr (2, [.ref (a 35), .ref (a 36), .ref (a 37), .ref (a 38), .ref (a 39), .ref (a 40), .ref (a 41), .ref (a 42), .int (nI ne)])), (a 35, .inl (cI, 8, .inl e0)), (a 38, .inl (cI, 256, .inl u0)), (a 39, .inl (cI, 256, .inl u1))]) (va_A [(a 34, .inr (2, [.ref (a 35), .ref (a 36), .ref (a 37), .ref (a 38), .ref (a 39), .ref (a 40), .ref (a 41), .ref (a 42), .int (nI ne)])), (a 35, .inl (cI, 8, .inl e0)), (a 38, .inl (cI, 256, .inl e3)), (a 39, .inl (cI, 256, .inl e4))] sz)) 0 0 (va_A [(a 34, .inr (2, [.ref (a 35), .ref (a 36), .ref (a 37), .ref (a 38), .ref (a 39), .ref (a 40), .ref (a 41), .ref (a 42), .int (nI ne)])), (a 35, .inl (cI, 8, .inl e0)), (a 38, .inl (cI, 256, .inl e3)), (a 39, .inl (cI, 256, .inl e4))] sz) := by
  refine Met.ofW (cc := cX2_countGroups) (maxL := 5) (ret := none) (by decide) rfl ?_
  intro p e s m args below meth c s₁ B hml hv
  obtain ⟨rfl, hsz, hP, hK, hD0, hN⟩ := hv
  have hx := B.exec
  have hb := B.bytes
  have hr := B.returns
  have hts := atoms_spec (ws := zz_w yX2_countGroups cX2_countGroups 5 none) B.pre
  have hw : ∀ w ∈ zz_all, w.before _ s = true := fun w h => hts w (List.mem_cons_of_mem _ h)
  have hown : s.vm.findClass RX2 = some m.cls := findClass_of_methodNamed B.named
  have hlocks := B.notSynchronized
  subst hsz
  have hD := hD0.self (sz := s.heap.size)
  generalize hAe : va_A [(a 34, .inr (2, [.ref (a 35), .ref (a 36), .ref (a 37), .ref (a 38), .ref (a 39), .ref (a 40), .ref (a 41), .ref (a 42), .int (nI ne)])), (a 35, .inl (cI, 8, .inl e0)), (a 38, .inl (cI, 256, .inl e3)), (a 39, .inl (cI, 256, .inl e4))] s.heap.size = A at hD ⊢
  have hA : ∀ q : Nat, s.heap.size ≤ q → A q := fun q h => by rw [← hAe]; exact Or.inr h
  have hS : va_S A s.heap s.heap [] := va_S.rf
  have hP : va_P (dC, dI) vwCl [(a 34, .inr (2, [.ref (a 35), .ref (a 36), .ref (a 37), .ref (a 38), .ref (a 39), .ref (a 40), .ref (a 41), .ref (a 42), .int (nI ne)])), (a 35, .inl (cI, 8, .inl e0)), (a 38, .inl (cI, 256, .inl e3)), (a 39, .inl (cI, 256, .inl e4))] s.heap := hP
  have hl := lv_entry ([.ref (a 34)]) (n := 5) (Nat.le_of_ble_eq_true rfl)
  rw [lg_entry_eq]
  generalize (lg_sl ([.ref (a 34)]) ++ List.replicate (5 - (lg_sl ([.ref (a 34)])).length) Slot.unset).toArray = ls at hl ⊢
  have hl : lv_has ls 5 [(0, .ref (a 34))] := hl
  refine lv_iconst (v := 1) hx hb dX2_countGroups_0 (by decide) ?_
  refine lv_istore_n (lv' := [(1, .int 1), (0, .ref (a 34))]) hx hb dX2_countGroups_1 rfl hl (by decide) rfl (fun ls hl => ?_)
  refine zz_loopS (fun (u : (Nat) × (Nat → Int32) × (Nat → Int32)) => match u with | (j, g3, g4) => [(a 34, .inr (2, [.ref (a 35), .ref (a 36), .ref (a 37), .ref (a 38), .ref (a 39), .ref (a 40), .ref (a 41), .ref (a 42), .int (nI ne)])), (a 35, .inl (cI, 8, .inl e0)), (a 38, .inl (cI, 256, .inl g3)), (a 39, .inl (cI, 256, .inl g4))]) (fun (u : (Nat) × (Nat → Int32) × (Nat → Int32)) => match u with | (j, g3, g4) => [(0, .ref (a 34)), (1, .int (nI j))]) (fun (u : (Nat) × (Nat → Int32) × (Nat → Int32)) => match u with | (j, g3, g4) => 1 ≤ j ∧ j ≤ 256 ∧ zz_RK e0 g3 g4 j) (fun (u : (Nat) × (Nat → Int32) × (Nat → Int32)) => match u with | (j, g3, g4) => 256 - j) (fun u hI H locs ls hP hD hS hl ih_2 => ?_) (1, e3, e4) ⟨by omega, by omega, zz_RK_1 he40⟩ _ _ _ (hP.sub [0, 1, 2, 3] rfl) (hD.sub [0, 1, 2, 3] (by decide) rfl) hS (lv_sub hl [1, 0] rfl)
  obtain ⟨j, g3, g4⟩ := u
  obtain ⟨hP, hD⟩ := zz_ty (D := (dC, dI)) (cl := vwCl) (A := A) (H := H) [(a 34, .inr (2, [.ref (a 35), .ref (a 36), .ref (a 37), .ref (a 38), .ref (a 39), .ref (a 40), .ref (a 41), .ref (a 42), .int (nI ne)])), (a 35, .inl (cI, 8, .inl e0)), (a 38, .inl (cI, 256, .inl g3)), (a 39, .inl (cI, 256, .inl g4))] hP hD rfl
  have hl : lv_has ls 5 [(0, .ref (a 34)), (1, .int (nI j))] := hl
  have hI : 1 ≤ j ∧ j ≤ 256 ∧ zz_RK e0 g3 g4 j := hI
  obtain ⟨ij1, ij, irk⟩ := hI
  refine lv_iload_n hx hb dX2_countGroups_2 rfl (lv_at hl 1 rfl) ?_
  refine lv_sipush (v := 256) hx hb dX2_countGroups_3 (by decide) ?_
  refine lv_icmp_ge (tgt := 94) hx hb dX2_countGroups_6 (by decide) (fun c_1 => ?_) (fun c_1 => ?_)
  · have zc_1 := c_1
    rw [Int32.le_iff_toInt_le] at zc_1
    try rw [zz_toInt j (by omega)] at zc_1
    try rw [show (256 : Int32).toInt = 256 from by decide] at zc_1
    obtain ⟨hP9, hD9⟩ := zz_sub2 (ws' := [(a 34, .inr (2, [.ref (a 35), .ref (a 36), .ref (a 37), .ref (a 38), .ref (a 39), .ref (a 40), .ref (a 41), .ref (a 42), .int (nI ne)])), (a 35, .inl (cI, 8, .inl e0)), (a 38, .inl (cI, 256, .inl g3)), (a 39, .inl (cI, 256, .inl g4))]) hP hD [0, 1, 2, 3] (by decide) rfl
    have hK9 := hK.sub (tys' := [(cI, .int)]) [0] rfl
    exact W.vret hx hb hr (fun t ht hW => ⟨⟨(g3, g4), rfl, (by rw [show (256 : Nat) = j from by omega]; exact irk), by rw [ht]; exact hP9, va_K.moved hW.alike hK9, hD9⟩, hS.F ht⟩) hS.2.2 dX2_countGroups_94
  · have zc_1 := c_1
    rw [Int32.le_iff_toInt_le] at zc_1
    try rw [zz_toInt j (by omega)] at zc_1
    try rw [show (256 : Int32).toInt = 256 from by decide] at zc_1
    refine lv_iconst (v := 0) hx hb dX2_countGroups_9 (by decide) ?_
    refine lv_istore_n (lv' := [(2, .int 0), (0, .ref (a 34)), (1, .int (nI j))]) hx hb dX2_countGroups_10 rfl hl (by decide) rfl (fun ls hl => ?_)
    refine lv_iconst (v := 0) hx hb dX2_countGroups_11 (by decide) ?_
    refine lv_istore_n (lv' := [(3, .int 0), (2, .int 0), (0, .ref (a 34)), (1, .int (nI j))]) hx hb dX2_countGroups_12 rfl hl (by decide) rfl (fun ls hl => ?_)
    refine lv_iconst (v := 0) hx hb dX2_countGroups_13 (by decide) ?_
    refine lv_istore (lv' := [(4, .int 0), (3, .int 0), (2, .int 0), (0, .ref (a 34)), (1, .int (nI j))]) hx hb dX2_countGroups_14 hl (by decide) rfl (fun ls hl => ?_)
    refine zz_loopS (fun (u : (Nat) × (Int32) × (Int32)) => match u with | (i, y, x) => [(a 34, .inr (2, [.ref (a 35), .ref (a 36), .ref (a 37), .ref (a 38), .ref (a 39), .ref (a 40), .ref (a 41), .ref (a 42), .int (nI ne)])), (a 35, .inl (cI, 8, .inl e0)), (a 38, .inl (cI, 256, .inl g3)), (a 39, .inl (cI, 256, .inl g4))]) (fun (u : (Nat) × (Int32) × (Int32)) => match u with | (i, y, x) => [(0, .ref (a 34)), (1, .int (nI j)), (2, .int y), (3, .int x), (4, .int (nI i))]) (fun (u : (Nat) × (Int32) × (Int32)) => match u with | (i, y, x) => i ≤ 8 ∧ y = Int32.ofInt (zz_is e0 j i) ∧ (∀ h : Nat, h < i → j.testBit h = true → (g4 (j - 2 ^ h)).toInt ≤ Int32.toInt x) ∧ (x = 0 ∨ ∃ h : Nat, h < i ∧ j.testBit h = true ∧ g4 (j - 2 ^ h) = x)) (fun (u : (Nat) × (Int32) × (Int32)) => match u with | (i, y, x) => 8 - i) (fun u hI H locs ls hP hD hS hl ih_16 => ?_) (0, 0, 0) ⟨by omega, zz_oi_0, fun h hh => absurd hh (Nat.not_lt_zero _), Or.inl rfl⟩ _ _ _ (hP.sub [0, 1, 2, 3] rfl) (hD.sub [0, 1, 2, 3] (by decide) rfl) hS (lv_sub hl [3, 4, 2, 1, 0] rfl)
    obtain ⟨i, y, x⟩ := u
    obtain ⟨hP, hD⟩ := zz_ty (D := (dC, dI)) (cl := vwCl) (A := A) (H := H) [(a 34, .inr (2, [.ref (a 35), .ref (a 36), .ref (a 37), .ref (a 38), .ref (a 39), .ref (a 40), .ref (a 41), .ref (a 42), .int (nI ne)])), (a 35, .inl (cI, 8, .inl e0)), (a 38, .inl (cI, 256, .inl g3)), (a 39, .inl (cI, 256, .inl g4))] hP hD rfl
    have hl : lv_has ls 5 [(0, .ref (a 34)), (1, .int (nI j)), (2, .int y), (3, .int x), (4, .int (nI i))] := hl
    have hI : i ≤ 8 ∧ y = Int32.ofInt (zz_is e0 j i) ∧ (∀ h : Nat, h < i → j.testBit h = true → (g4 (j - 2 ^ h)).toInt ≤ Int32.toInt x) ∧ (x = 0 ∨ ∃ h : Nat, h < i ∧ j.testBit h = true ∧ g4 (j - 2 ^ h) = x) := hI
    obtain ⟨ii, iy, ix1, ix2⟩ := hI
    refine lv_iload hx hb dX2_countGroups_16 (lv_at hl 4 rfl) ?_
    refine lv_bipush (v := 8) hx hb dX2_countGroups_18 (by decide) ?_
    refine lv_icmp_ge (tgt := 64) hx hb dX2_countGroups_20 (by decide) (fun c_2 => ?_) (fun c_2 => ?_)
    · have zc_2 := c_2
      rw [Int32.le_iff_toInt_le] at zc_2
      try rw [zz_toInt i (by omega)] at zc_2
      try rw [show (8 : Int32).toInt = 8 from by decide] at zc_2
      refine lv_aload_n hx hb dX2_countGroups_64 rfl (lv_at hl 0 rfl) ?_
      refine va_get (D := (dC, dI)) (ci := 2) (v := .ref (a 38)) (C := RX2) (T := TX2) (N := 9) hx hb hw zz_inX2 hown hK hP 0 rfl rfl 3 (by decide) (hw _ tw_103) (fun _ h9 => h9) rfl dX2_countGroups_65 ?_
      refine lv_iload_n hx hb dX2_countGroups_68 rfl (lv_at hl 1 rfl) ?_
      refine lv_iload_n hx hb dX2_countGroups_69 rfl (lv_at hl 2 rfl) ?_
      refine va_iast hx hb hK hP hD hS 2 0 rfl rfl (vp_in_iff.mpr (by rw [zz_toInt j (by omega)]; constructor <;> omega)) dX2_countGroups_70 (fun H locs hP hD hS => ?_)
      obtain ⟨hP, hD⟩ := zz_ty (D := (dC, dI)) (cl := vwCl) (A := A) (H := H) [(a 34, .inr (2, [.ref (a 35), .ref (a 36), .ref (a 37), .ref (a 38), .ref (a 39), .ref (a 40), .ref (a 41), .ref (a 42), .int (nI ne)])), (a 35, .inl (cI, 8, .inl e0)), (a 38, .inl (cI, 256, .inl (upd g3 (Int32.toNatClampNeg (nI j)) y))), (a 39, .inl (cI, 256, .inl g4))] hP hD rfl
      refine lv_aload_n hx hb dX2_countGroups_71 rfl (lv_at hl 0 rfl) ?_
      refine va_get (D := (dC, dI)) (ci := 2) (v := .ref (a 39)) (C := RX2) (T := TX2) (N := 9) hx hb hw zz_inX2 hown hK hP 0 rfl rfl 4 (by decide) (hw _ tw_104) (fun _ h9 => h9) rfl dX2_countGroups_72 ?_
      refine lv_iload_n hx hb dX2_countGroups_75 rfl (lv_at hl 1 rfl) ?_
      refine lv_iload_n hx hb dX2_countGroups_76 rfl (lv_at hl 2 rfl) ?_
      refine lv_if_ne (tgt := 86) hx hb dX2_countGroups_77 (by decide) (fun c_3 => ?_) (fun c_3 => ?_)
      · have zc_3 := c_3
        rw [← Int32.toInt_inj] at zc_3
        try rw [show (0 : Int32).toInt = 0 from by decide] at zc_3
        refine lv_iload_n hx hb dX2_countGroups_86 rfl (lv_at hl 3 rfl) ?_
        refine va_iast hx hb hK hP hD hS 3 0 rfl rfl (vp_in_iff.mpr (by rw [zz_toInt j (by omega)]; constructor <;> omega)) dX2_countGroups_87 (fun H locs hP hD hS => ?_)
        obtain ⟨hP, hD⟩ := zz_ty (D := (dC, dI)) (cl := vwCl) (A := A) (H := H) [(a 34, .inr (2, [.ref (a 35), .ref (a 36), .ref (a 37), .ref (a 38), .ref (a 39), .ref (a 40), .ref (a 41), .ref (a 42), .int (nI ne)])), (a 35, .inl (cI, 8, .inl e0)), (a 38, .inl (cI, 256, .inl (upd g3 (Int32.toNatClampNeg (nI j)) y))), (a 39, .inl (cI, 256, .inl (upd g4 (Int32.toNatClampNeg (nI j)) x)))] hP hD rfl
        refine lv_iinc (v := (nI (j + 1))) (lv' := [(1, .int (nI (j + 1))), (0, .ref (a 34)), (2, .int y), (3, .int x), (4, .int (nI i))]) hx hb dX2_countGroups_88 hl (k := 1) rfl (nI_1 _) (by decide) rfl (fun ls hl => ?_)
        refine lv_goto (tgt := 2) hx hb dX2_countGroups_91 (by decide) ?_
        exact ih_2 ((j + 1), (upd g3 (Int32.toNatClampNeg (nI j)) y), (upd g4 (Int32.toNatClampNeg (nI j)) x)) ⟨by omega, by omega, zz_RK_s irk (by omega) (by omega) (by rw [show (8 : Nat) = i from by omega]; exact iy) (fun h hh => ix1 h (by omega)) (by rw [show (8 : Nat) = i from by omega]; exact ix2) (if_neg c_3).symm⟩ (show 256 - (j + 1) < 256 - j from by omega) _ _ _ (hP.sub [0, 1, 2, 3] rfl) (hD.sub [0, 1, 2, 3] (by decide) rfl) hS (lv_sub hl [1, 0] rfl)
      · have zc_3 := c_3
        rw [← Int32.toInt_inj] at zc_3
        try rw [show (0 : Int32).toInt = 0 from by decide] at zc_3
        refine lv_iload_n hx hb dX2_countGroups_80 rfl (lv_at hl 3 rfl) ?_
        refine lv_iconst (v := 1) hx hb dX2_countGroups_81 (by decide) ?_
        refine lv_iadd hx hb dX2_countGroups_82 ?_
        refine lv_goto (tgt := 87) hx hb dX2_countGroups_83 (by decide) ?_
        refine va_iast hx hb hK hP hD hS 3 0 rfl rfl (vp_in_iff.mpr (by rw [zz_toInt j (by omega)]; constructor <;> omega)) dX2_countGroups_87 (fun H locs hP hD hS => ?_)
        obtain ⟨hP, hD⟩ := zz_ty (D := (dC, dI)) (cl := vwCl) (A := A) (H := H) [(a 34, .inr (2, [.ref (a 35), .ref (a 36), .ref (a 37), .ref (a 38), .ref (a 39), .ref (a 40), .ref (a 41), .ref (a 42), .int (nI ne)])), (a 35, .inl (cI, 8, .inl e0)), (a 38, .inl (cI, 256, .inl (upd g3 (Int32.toNatClampNeg (nI j)) y))), (a 39, .inl (cI, 256, .inl (upd g4 (Int32.toNatClampNeg (nI j)) (x + 1))))] hP hD rfl
        refine lv_iinc (v := (nI (j + 1))) (lv' := [(1, .int (nI (j + 1))), (0, .ref (a 34)), (2, .int y), (3, .int x), (4, .int (nI i))]) hx hb dX2_countGroups_88 hl (k := 1) rfl (nI_1 _) (by decide) rfl (fun ls hl => ?_)
        refine lv_goto (tgt := 2) hx hb dX2_countGroups_91 (by decide) ?_
        exact ih_2 ((j + 1), (upd g3 (Int32.toNatClampNeg (nI j)) y), (upd g4 (Int32.toNatClampNeg (nI j)) (x + 1))) ⟨by omega, by omega, zz_RK_s irk (by omega) (by omega) (by rw [show (8 : Nat) = i from by omega]; exact iy) (fun h hh => ix1 h (by omega)) (by rw [show (8 : Nat) = i from by omega]; exact ix2) (if_pos c_3).symm⟩ (show 256 - (j + 1) < 256 - j from by omega) _ _ _ (hP.sub [0, 1, 2, 3] rfl) (hD.sub [0, 1, 2, 3] (by decide) rfl) hS (lv_sub hl [1, 0] rfl)
    · have zc_2 := c_2
      rw [Int32.le_iff_toInt_le] at zc_2
      try rw [zz_toInt i (by omega)] at zc_2
      try rw [show (8 : Int32).toInt = 8 from by decide] at zc_2
      have hpw := zz_p2le (j := i) (by omega)
      refine lv_iload_n hx hb dX2_countGroups_23 rfl (lv_at hl 1 rfl) ?_
      refine lv_iconst (v := 1) hx hb dX2_countGroups_24 (by decide) ?_
      refine lv_iload hx hb dX2_countGroups_25 (lv_at hl 4 rfl) ?_
      refine lv_ishl hx hb dX2_countGroups_27 ?_
      refine zz_seti (nI (2 ^ i)) (zz_shl (by omega)) ?_
      refine lv_iand hx hb dX2_countGroups_28 ?_
      refine zz_seti (nI (j &&& (2 ^ i))) (zz_andN (by omega) (by omega)) ?_
      have hand_4 := Nat.and_le_left (n := j) (m := (2 ^ i))
      refine lv_if_eq (tgt := 58) hx hb dX2_countGroups_29 (by decide) (fun c_5 => ?_) (fun c_5 => ?_)
      · have zc_5 := c_5
        rw [← Int32.toInt_inj] at zc_5
        try rw [zz_toInt (j &&& (2 ^ i)) (by omega)] at zc_5
        try rw [show (0 : Int32).toInt = 0 from by decide] at zc_5
        refine lv_iinc (v := (nI (i + 1))) (lv' := [(4, .int (nI (i + 1))), (0, .ref (a 34)), (1, .int (nI j)), (2, .int y), (3, .int x)]) hx hb dX2_countGroups_58 hl (k := 4) rfl (nI_1 _) (by decide) rfl (fun ls hl => ?_)
        refine lv_goto (tgt := 16) hx hb dX2_countGroups_61 (by decide) ?_
        exact ih_16 ((i + 1), y, x) ⟨by omega, (by rw [iy, zz_is, if_neg (by rw [zz_tb0 (show j &&& 2 ^ i = 0 by omega)]; decide), Int.add_zero]), zz_mx0b (P := (fun h => j.testBit h = true)) (f := (fun h => g4 (j - 2 ^ h))) ix1 (by rw [zz_tb0 (show j &&& 2 ^ i = 0 by omega)]; decide), zz_mx0c (P := (fun h => j.testBit h = true)) (f := (fun h => g4 (j - 2 ^ h))) ix2⟩ (show 8 - (i + 1) < 8 - i from by omega) _ _ _ (hP.sub [0, 1, 2, 3] rfl) (hD.sub [0, 1, 2, 3] (by decide) rfl) hS (lv_sub hl [1, 2, 3, 4, 0] rfl)
      · have zc_5 := c_5
        rw [← Int32.toInt_inj] at zc_5
        try rw [zz_toInt (j &&& (2 ^ i)) (by omega)] at zc_5
        try rw [show (0 : Int32).toInt = 0 from by decide] at zc_5
        have hbi : j.testBit i = true := zz_tb1 (by omega)
        refine lv_iload_n hx hb dX2_countGroups_32 rfl (lv_at hl 2 rfl) ?_
        refine lv_aload_n hx hb dX2_countGroups_33 rfl (lv_at hl 0 rfl) ?_
        refine va_get (D := (dC, dI)) (ci := 2) (v := .ref (a 35)) (C := RX2) (T := TX2) (N := 9) hx hb hw zz_inX2 hown hK hP 0 rfl rfl 0 (by decide) (hw _ tw_115) (fun _ h9 => h9) rfl dX2_countGroups_34 ?_
        refine lv_iload hx hb dX2_countGroups_37 (lv_at hl 4 rfl) ?_
        refine va_iald hx hb hK hP 1 0 rfl rfl (vp_in_iff.mpr (by rw [zz_toInt i (by omega)]; constructor <;> omega)) dX2_countGroups_39 ?_
        refine zz_seti (e0 i) (congrArg e0 (zz_cl (by omega))) ?_
        refine lv_iadd hx hb dX2_countGroups_40 ?_
        refine lv_istore_n (lv' := [(2, .int (y + (e0 i))), (0, .ref (a 34)), (1, .int (nI j)), (3, .int x), (4, .int (nI i))]) hx hb dX2_countGroups_41 rfl hl (by decide) rfl (fun ls hl => ?_)
        refine lv_iload_n hx hb dX2_countGroups_42 rfl (lv_at hl 3 rfl) ?_
        refine lv_aload_n hx hb dX2_countGroups_43 rfl (lv_at hl 1 rfl) ?_
        refine va_get (D := (dC, dI)) (ci := 2) (v := .ref (a 39)) (C := RX2) (T := TX2) (N := 9) hx hb hw zz_inX2 hown hK hP 0 rfl rfl 4 (by decide) (hw _ tw_104) (fun _ h9 => h9) rfl dX2_countGroups_44 ?_
        refine lv_iload_n hx hb dX2_countGroups_47 rfl (lv_at hl 2 rfl) ?_
        refine lv_iconst (v := 1) hx hb dX2_countGroups_48 (by decide) ?_
        refine lv_iload hx hb dX2_countGroups_49 (lv_at hl 4 rfl) ?_
        refine lv_ishl hx hb dX2_countGroups_51 ?_
        refine zz_seti (nI (2 ^ i)) (zz_shl (by omega)) ?_
        refine lv_ixor hx hb dX2_countGroups_52 ?_
        refine zz_seti (nI (j - 2 ^ i)) (zz_xorp (by omega) (zz_p2s hbi)) ?_
        have hlt2 := zz_subl (show j < 256 by omega) (zz_p2s hbi) Nat.one_le_two_pow
        refine va_iald hx hb hK hP 3 0 rfl rfl (vp_in_iff.mpr (by rw [zz_toInt (j - 2 ^ i) (by omega)]; constructor <;> omega)) dX2_countGroups_53 ?_
        refine zz_seti (g4 (j - 2 ^ i)) (congrArg g4 (zz_cl (by omega))) ?_
        refine va_mmax hx hb (by rw [hml]; exact hl.1.symm) hown (hw _ tw_116) (hw _ tw_37) (hw _ tw_28) (hw _ tw_38) (Nat.le_of_ble_eq_true rfl) (Nat.le_of_ble_eq_true rfl) (Nat.le_of_ble_eq_true rfl) (Nat.le_of_ble_eq_true rfl) dX2_countGroups_54 ?_
        refine lv_istore_n (lv' := [(3, .int (if x < (g4 (j - 2 ^ i)) then (g4 (j - 2 ^ i)) else x)), (2, .int (y + (e0 i))), (0, .ref (a 34)), (1, .int (nI j)), (4, .int (nI i))]) hx hb dX2_countGroups_57 rfl hl (by decide) rfl (fun ls hl => ?_)
        refine lv_iinc (v := (nI (i + 1))) (lv' := [(4, .int (nI (i + 1))), (3, .int (if x < (g4 (j - 2 ^ i)) then (g4 (j - 2 ^ i)) else x)), (2, .int (y + (e0 i))), (0, .ref (a 34)), (1, .int (nI j))]) hx hb dX2_countGroups_58 hl (k := 4) rfl (nI_1 _) (by decide) rfl (fun ls hl => ?_)
        refine lv_goto (tgt := 16) hx hb dX2_countGroups_61 (by decide) ?_
        exact ih_16 ((i + 1), (y + (e0 i)), (if x < (g4 (j - 2 ^ i)) then (g4 (j - 2 ^ i)) else x)) ⟨by omega, (by rw [iy, zz_is, if_pos hbi]; exact zz_oi_add), zz_mx2 (P := (fun h => j.testBit h = true)) (f := (fun h => g4 (j - 2 ^ h))) ix1 rfl hbi, zz_mx3 (P := (fun h => j.testBit h = true)) (f := (fun h => g4 (j - 2 ^ h))) ix2 rfl hbi⟩ (show 8 - (i + 1) < 8 - i from by omega) _ _ _ (hP.sub [0, 1, 2, 3] rfl) (hD.sub [0, 1, 2, 3] (by decide) rfl) hS (lv_sub hl [3, 4, 2, 1, 0] rfl)
