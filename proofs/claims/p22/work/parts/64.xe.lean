theorem zz_run_ext {cs : Nat → Int32} {v : Int32} {k j : Nat} (h : zz_run cs v k j) (hj : zz_so (cs (k + j)) = v) : zz_run cs v k (j + 1) := by
  intro i hi
  by_cases e : i = j
  · subst e; exact hj
  · exact h i (by omega)
theorem zz_wd_r (cs : Nat → Int32) (k : Nat) : zz_wd cs k = -1 ∨ ∃ w : Nat, w < 7 ∧ zz_wd cs k = nI w := by
  have key : ∀ f w : Nat, w + f = 7 → zz_wdF cs k f w = -1 ∨ ∃ v : Nat, v < 7 ∧ zz_wdF cs k f w = nI v := by
    intro f
    induction f with
    | zero => intro w _; exact Or.inl rfl
    | succ f ih =>
      intro w hw
      rw [zz_wdF]
      by_cases c : zz_mt cs w k
      · rw [if_pos c]; exact Or.inr ⟨w, by omega, rfl⟩
      · rw [if_neg c]; exact ih (w + 1) (by omega)
  exact key 7 0 rfl
/-- the class's fields beside what is told so far -/
def zz_bit (se : Int32) (w : Nat) : Int32 := se &&& ((1 : Int32) <<< (nI w &&& 31))
def zz_qr (q : zz_Q) (wd wo se cl : Int32) (dr : Nat → Int32) : Prop := wd = nI q.1 ∧ (q.1 = 1 ∨ q.1 = 2 ∨ q.1 = 3) ∧ (q.1 = 2 → wo = nI q.2.1 ∧ q.2.1 < 7) ∧ (∀ w : Nat, w < 7 → (zz_bit se w = 0 ↔ ¬ q.2.2.1 w = true)) ∧ cl = nI q.2.2.2.1 ∧ ∀ w : Nat, w < 7 → dr w = q.2.2.2.2 w
theorem zz_or0 {x y : Int32} (h : x ||| y = 0) : x = 0 ∧ y = 0 := by
  have e := congrArg Int32.toBitVec h
  rw [Int32.toBitVec_or] at e
  have k : ∀ i : Nat, x.toBitVec.getLsbD i = false ∧ y.toBitVec.getLsbD i = false := by
    intro i
    have := congrArg (fun z => BitVec.getLsbD z i) e
    simp only [BitVec.getLsbD_or] at this
    have z : (0 : Int32).toBitVec.getLsbD i = false := by simp
    rw [z] at this
    simpa using this
  constructor
  · apply Int32.toBitVec_inj.mp
    apply BitVec.eq_of_getLsbD_eq
    intro i hi
    rw [(k i).1]; simp
  · apply Int32.toBitVec_inj.mp
    apply BitVec.eq_of_getLsbD_eq
    intro i hi
    rw [(k i).2]; simp
theorem zz_bitw : ∀ w : Nat, w < 7 → ∀ v : Nat, v < 7 → (w = v ∧ ¬ (((1 : Int32) <<< (nI w &&& 31)) &&& ((1 : Int32) <<< (nI v &&& 31))) = 0) ∨ (¬ w = v ∧ (((1 : Int32) <<< (nI w &&& 31)) &&& ((1 : Int32) <<< (nI v &&& 31))) = 0) := by decide +kernel
theorem zz_bit_or {se : Int32} {w v : Nat} (hw : w < 7) (hv : v < 7) : zz_bit (se ||| ((1 : Int32) <<< (nI w &&& 31))) v = 0 ↔ zz_bit se v = 0 ∧ ¬ w = v := by
  have e : zz_bit (se ||| ((1 : Int32) <<< (nI w &&& 31))) v = zz_bit se v ||| (((1 : Int32) <<< (nI w &&& 31)) &&& ((1 : Int32) <<< (nI v &&& 31))) := by
    unfold zz_bit
    apply Int32.toBitVec_inj.mp
    simp only [Int32.toBitVec_and, Int32.toBitVec_or]
    apply BitVec.eq_of_getLsbD_eq
    intro i hi
    simp only [BitVec.getLsbD_and, BitVec.getLsbD_or]
    cases se.toBitVec.getLsbD i <;> cases ((1 : Int32) <<< (nI w &&& 31)).toBitVec.getLsbD i <;> cases ((1 : Int32) <<< (nI v &&& 31)).toBitVec.getLsbD i <;> rfl
  rw [e]
  rcases zz_bitw w hw v hv with ⟨a, b⟩ | ⟨a, b⟩
  · constructor
    · intro h; exact absurd (zz_or0 h).2 b
    · intro h; exact absurd a h.2
  · rw [b]
    constructor
    · intro h; exact ⟨(zz_or0 h).1, a⟩
    · intro h; rw [h.1]; decide
theorem zz_tk_ne {cs : Nat → Int32} {n k : Nat} {q : zz_Q} (h : ¬ zz_so (cs k) = nI q.1) : zz_tk cs n k q = (1, q) := by unfold zz_tk; rw [if_neg h]
theorem zz_tk_w1 {cs : Nat → Int32} {n k : Nat} {q : zz_Q} (h : zz_so (cs k) = 1) (hq : q.1 = 1) (hw : zz_wd cs k = -1) : zz_tk cs n k q = (1, q) := by
  unfold zz_tk; rw [if_pos (by rw [h, hq]; rfl), if_pos hq, if_pos hw]
theorem zz_tk_w2 {cs : Nat → Int32} {n k w : Nat} {q : zz_Q} (h : zz_so (cs k) = 1) (hq : q.1 = 1) (hw7 : w < 7) (hw : zz_wd cs k = nI w) (hs : q.2.2.1 w = true) : zz_tk cs n k q = (2, q) := by
  unfold zz_tk
  rw [if_pos (by rw [h, hq]; rfl), if_pos hq, hw, zz_cl (by omega), if_neg (fun z => by have := congrArg Int32.toInt z; rw [zz_toInt w (by omega), show (-1 : Int32).toInt = -1 from by decide] at this; omega), if_pos hs]
theorem zz_tk_w0 {cs : Nat → Int32} {n k w : Nat} {q : zz_Q} (h : zz_so (cs k) = 1) (hq : q.1 = 1) (hw7 : w < 7) (hw : zz_wd cs k = nI w) (hs : ¬ q.2.2.1 w = true) : zz_tk cs n k q = (0, (2, w, zz_ub q.2.2.1 w, q.2.2.2.1, q.2.2.2.2)) := by
  unfold zz_tk
  rw [if_pos (by rw [h, hq]; rfl), if_pos hq, hw, zz_cl (by omega), if_neg (fun z => by have := congrArg Int32.toInt z; rw [zz_toInt w (by omega), show (-1 : Int32).toInt = -1 from by decide] at this; omega), if_neg hs]
theorem zz_tk_n3 {cs : Nat → Int32} {n k : Nat} {q : zz_Q} (h : zz_so (cs k) = 2) (hq : q.1 = 2) (hr : ¬ ((zz_lo7 q.2.1).toInt ≤ (zz_nv cs k (zz_rl cs 2 (n - k) k) : Int) ∧ (zz_nv cs k (zz_rl cs 2 (n - k) k) : Int) ≤ (zz_hi7 q.2.1).toInt)) : zz_tk cs n k q = (3, q) := by
  unfold zz_tk; rw [if_pos (by rw [h, hq]; rfl), if_neg (by omega), if_pos hq, if_neg hr]
theorem zz_tk_n0 {cs : Nat → Int32} {n k : Nat} {q : zz_Q} (h : zz_so (cs k) = 2) (hq : q.1 = 2) (hr : (zz_lo7 q.2.1).toInt ≤ (zz_nv cs k (zz_rl cs 2 (n - k) k) : Int) ∧ (zz_nv cs k (zz_rl cs 2 (n - k) k) : Int) ≤ (zz_hi7 q.2.1).toInt) : zz_tk cs n k q = (0, (3, q.2.1, q.2.2.1, q.2.2.2.1, upd q.2.2.2.2 q.2.1 (nI (zz_nv cs k (zz_rl cs 2 (n - k) k))))) := by
  unfold zz_tk; rw [if_pos (by rw [h, hq]; rfl), if_neg (by omega), if_pos hq, if_pos hr]
theorem zz_tk_s {cs : Nat → Int32} {n k : Nat} {q : zz_Q} (h : zz_so (cs k) = 3) (hq : q.1 = 3) : zz_tk cs n k q = (0, (1, q.2.1, q.2.2.1, q.2.2.2.1 + 1, q.2.2.2.2)) := by
  unfold zz_tk; rw [if_pos (by rw [h, hq]; rfl), if_neg (by omega), if_neg (by omega)]
/-- after a word -/
theorem zz_qr_w {q : zz_Q} {wd wo se cl : Int32} {dr : Nat → Int32} {w : Nat} (h : zz_qr q wd wo se cl dr) (hw : w < 7) : zz_qr (2, w, zz_ub q.2.2.1 w, q.2.2.2.1, q.2.2.2.2) 2 (nI w) (se ||| ((1 : Int32) <<< (nI w &&& 31))) cl dr := by
  obtain ⟨h1, h2, h3, h4, h5, h6⟩ := h
  refine ⟨rfl, Or.inr (Or.inl rfl), fun _ => ⟨rfl, hw⟩, fun v hv => ?_, h5, h6⟩
  rw [zz_bit_or hw hv, h4 v hv]
  show _ ↔ ¬ zz_ub q.2.2.1 w v = true
  unfold zz_ub
  by_cases e : v = w
  · rw [if_pos e]; constructor
    · intro z; exact absurd e.symm z.2
    · intro z; exact absurd rfl z
  · rw [if_neg e]; constructor
    · intro z; exact z.1
    · intro z; exact ⟨z, fun z2 => e z2.symm⟩
theorem zz_qr_n {q : zz_Q} {wd wo se cl v : Int32} {dr : Nat → Int32} (h : zz_qr q wd wo se cl dr) (hq : q.1 = 2) : zz_qr (3, q.2.1, q.2.2.1, q.2.2.2.1, upd q.2.2.2.2 q.2.1 v) 3 wo se cl (upd dr (Int32.toNatClampNeg (nI q.2.1)) v) := by
  obtain ⟨h1, h2, h3, h4, h5, h6⟩ := h
  refine ⟨rfl, Or.inr (Or.inr rfl), fun z => absurd (show (3 : Nat) = 2 from z) (by decide), h4, h5, fun w hw => ?_⟩
  rw [zz_cl (by have := (h3 hq).2; omega)]
  show upd dr q.2.1 v w = upd q.2.2.2.2 q.2.1 v w
  simp only [upd]
  by_cases e : w = q.2.1
  · rw [if_pos e, if_pos e]
  · rw [if_neg e, if_neg e]; exact h6 w hw
theorem zz_qr_s {q : zz_Q} {wd wo se cl : Int32} {dr : Nat → Int32} (h : zz_qr q wd wo se cl dr) : zz_qr (1, q.2.1, q.2.2.1, q.2.2.2.1 + 1, q.2.2.2.2) 1 wo se (cl + 1) dr := by
  obtain ⟨h1, h2, h3, h4, h5, h6⟩ := h
  exact ⟨rfl, Or.inl rfl, fun z => absurd (show (1 : Nat) = 2 from z) (by decide), h4, by rw [h5]; exact nI_1 _, h6⟩
set_option maxHeartbeats 4000000 in
set_option maxRecDepth 100000 in
theorem kx_numberAt (l : Launch) (dC : Nat → ClassId) (dI : Nat → Nat → Nat) (a : Nat → Nat) (cI : ClassId) (nt : Nat) (fb : Nat → Int32) (ka : Nat) (sz : Nat) (hnt : nt ≤ 200) (hkn : ka < nt) : Met l yX0_numberAt (zz_w yX0_numberAt cX0_numberAt 4 (some .int)) ({ frames := 1, cells := 0, slots := 0, locals := 21 }) (va_Pc [.ref (a 24), .int (nI ka)] (zz_B (dC, dI) sz [(a 24, .inr (6, [.ref (a 25), .int (nI nt)])), (a 25, .inl (cI, 200, .inl fb))] [(cI, .int)])) (va_Qi (fun (r : Int32) (_ : Unit) => r = nI (zz_nv (zz_cs fb nt) ka (zz_rl (zz_cs fb nt) 2 (nt - ka) ka))) (fun _ _ => True) (va_A [] sz)) 0 0 (va_A [] sz) := by
  refine Met.ofW (cc := cX0_numberAt) (maxL := 4) (ret := (some .int)) (by decide) rfl ?_
  intro p e s m args below meth c s₁ B hml hv
  obtain ⟨rfl, hsz, hP, hK, hD0, hN⟩ := hv
  have hx := B.exec
  have hb := B.bytes
  have hr := B.returns
  have hts := atoms_spec (ws := zz_w yX0_numberAt cX0_numberAt 4 (some .int)) B.pre
  have hw : ∀ w ∈ zz_all, w.before _ s = true := fun w h => hts w (List.mem_cons_of_mem _ h)
  have hown : s.vm.findClass RX0 = some m.cls := findClass_of_methodNamed B.named
  have hlocks := B.notSynchronized
  subst hsz
  have hD := hD0
  generalize hAe : va_A [] s.heap.size = A
  have hA : ∀ q : Nat, s.heap.size ≤ q → A q := fun q h => by rw [← hAe]; exact Or.inr h
  have hS : va_S A s.heap s.heap [] := va_S.rf
  have hP : va_P (dC, dI) vwCl [(a 24, .inr (6, [.ref (a 25), .int (nI nt)])), (a 25, .inl (cI, 200, .inl fb))] s.heap := hP
  have hl := lv_entry ([.ref (a 24), .int (nI ka)]) (n := 4) (Nat.le_of_ble_eq_true rfl)
  rw [lg_entry_eq]
  generalize (lg_sl ([.ref (a 24), .int (nI ka)]) ++ List.replicate (4 - (lg_sl ([.ref (a 24), .int (nI ka)])).length) Slot.unset).toArray = ls at hl ⊢
  have hl : lv_has ls 4 [(0, .ref (a 24)), (1, .int (nI ka))] := hl
  refine lv_iconst (v := 0) hx hb dX0_numberAt_0 (by decide) ?_
  refine lv_istore_n (lv' := [(2, .int 0), (0, .ref (a 24)), (1, .int (nI ka))]) hx hb dX0_numberAt_1 rfl hl (by decide) rfl (fun ls hl => ?_)
  refine lv_iload_n hx hb dX0_numberAt_2 rfl (lv_at hl 2 rfl) ?_
  refine lv_istore_n (lv' := [(3, .int (nI ka)), (2, .int 0), (0, .ref (a 24)), (1, .int (nI ka))]) hx hb dX0_numberAt_3 rfl hl (by decide) rfl (fun ls hl => ?_)
  refine zz_loopS (fun (j : (Nat)) => [(a 24, .inr (6, [.ref (a 25), .int (nI nt)])), (a 25, .inl (cI, 200, .inl fb))]) (fun (j : (Nat)) => [(0, .ref (a 24)), (1, .int (nI ka)), (2, .int (nI (zz_nv (zz_cs fb nt) ka j))), (3, .int (nI (ka + j)))]) (fun (j : (Nat)) => ka + j ≤ nt ∧ zz_run (zz_cs fb nt) 2 ka j) (fun (j : (Nat)) => nt - (ka + j)) (fun u hI H locs ls hP hD hS hl ih_4 => ?_) 0 ⟨by omega, fun i hi => absurd hi (by omega)⟩ _ _ _ (hP.sub [0, 1] rfl) (hD.sub [0, 1] (by decide) rfl) hS (lv_sub hl [2, 3, 1, 0] rfl)
  obtain ⟨j, rfl⟩ : ∃ z, z = u := ⟨_, rfl⟩
  obtain ⟨hP, hD⟩ := zz_ty (D := (dC, dI)) (cl := vwCl) (A := (fun _ => True)) (H := H) [(a 24, .inr (6, [.ref (a 25), .int (nI nt)])), (a 25, .inl (cI, 200, .inl fb))] hP hD rfl
  have hl : lv_has ls 4 [(0, .ref (a 24)), (1, .int (nI ka)), (2, .int (nI (zz_nv (zz_cs fb nt) ka j))), (3, .int (nI (ka + j)))] := hl
  have hI : ka + j ≤ nt ∧ zz_run (zz_cs fb nt) 2 ka j := hI
  obtain ⟨ij, ir⟩ := hI
  refine lv_iload_n hx hb dX0_numberAt_4 rfl (lv_at hl 3 rfl) ?_
  refine lv_aload_n hx hb dX0_numberAt_5 rfl (lv_at hl 0 rfl) ?_
  refine va_getN (D := (dC, dI)) (ci := 6) (v := .int (nI nt)) (C := RX6) (T := TX6) (N := 2) hx hb hw zz_inX6 hown hK hP 0 rfl rfl 1 (by decide) (hN.use zz_n22) (fun _ h9 => h9) rfl dX0_numberAt_6 ?_
  refine lv_icmp_ge (tgt := 50) hx hb dX0_numberAt_9 (by decide) (fun c_1 => ?_) (fun c_1 => ?_)
  · have zc_1 := c_1
    rw [Int32.le_iff_toInt_le] at zc_1
    try rw [zz_toInt (ka + j) (by omega)] at zc_1
    try rw [zz_toInt nt (by omega)] at zc_1
    refine lv_iload_n hx hb dX0_numberAt_50 rfl (lv_at hl 2 rfl) ?_
    exact W.iret (v := (nI (zz_nv (zz_cs fb nt) ka j))) hx hb hr (fun t ht hW => ⟨⟨(nI (zz_nv (zz_cs fb nt) ka j)), (), rfl, (by rw [zz_rl_eq (nt - ka) ka j (by omega) ir (fun hm => absurd hm (by omega))]), trivial⟩, hS.F ht⟩) hS.2.2 dX0_numberAt_51
  · have zc_1 := c_1
    rw [Int32.le_iff_toInt_le] at zc_1
    try rw [zz_toInt (ka + j) (by omega)] at zc_1
    try rw [zz_toInt nt (by omega)] at zc_1
    refine lv_aload_n hx hb dX0_numberAt_12 rfl (lv_at hl 0 rfl) ?_
    refine lv_iload_n hx hb dX0_numberAt_13 rfl (lv_at hl 3 rfl) ?_
    obtain ⟨hPc, hDc⟩ := zz_sub2 (ws' := [(a 24, .inr (6, [.ref (a 25), .int (nI nt)])), (a 25, .inl (cI, 200, .inl fb))]) hP hD [0, 1] (by decide) rfl
    have hKc := hK.sub (tys' := [(cI, .int)]) [0] rfl
    have hFc := zz_free0 hS hA
    refine va_calli (va_runVN (As := [.int (nI (ka + j))]) (rest := []) ⟨hx, hb, hml, hown, hw⟩ (kx_at l dC dI a cI nt fb (nI (ka + j)) H.size (by omega)) ⟨va_cnB 1 hw (zz_good tw_353) rfl rfl rfl (hN.1 _ zz_n48) (hw _ tw_99) (by decide +kernel) ⟨Nat.le_of_ble_eq_true rfl, Nat.le_of_ble_eq_true rfl⟩, (hw _ tw_354), (hw _ tw_355)⟩ ⟨zz_blind, va_recv hKc hPc (ci := 6) (q0 := 0) rfl rfl, zz_pre hPc hKc hDc hN⟩ rfl rfl hl.1 rfl (lv_room (Nat.le_of_ble_eq_true rfl)) dX0_numberAt_14 ⟨Nat.le_of_ble_eq_true rfl, Nat.le_of_ble_eq_true rfl⟩) hS (fun q _ h => hFc q h) hFc (fun r_2 u_2 t H1 locs ht hvm e_2 hB hz1 hk1 hS => ?_)
    try dsimp only at e_2
    have hP := zz_keep hP hk1
    clear hk1 hB ht hvm
    generalize H1 = H at hP hS ⊢
    refine zz_seti (zz_cs fb nt (ka + j)) (e_2.trans (zz_ca_n (by omega))) ?_
    obtain ⟨hPc, hDc⟩ := zz_sub2 (ws' := []) hP hD [] (by decide) rfl
    have hKc := hK.sub (tys' := []) [] rfl
    have hFc := zz_free0 hS hA
    refine va_calli (va_runS (As := [.int (zz_cs fb nt (ka + j))]) (rest := []) ⟨hx, hb, hml, hown, hw⟩ (kx_sortOf l dC dI (zz_cs fb nt (ka + j)) H.size) ⟨callB_of 1 hw (zz_good tw_356) rfl rfl rfl (hw _ tw_357) (hw _ tw_358) (by decide +kernel) ⟨Nat.le_of_ble_eq_true rfl, Nat.le_of_ble_eq_true rfl⟩, (hw _ tw_359)⟩ ⟨zz_blind, zz_pre hPc hKc hDc hN⟩ rfl rfl hl.1 rfl (lv_room (Nat.le_of_ble_eq_true rfl)) dX0_numberAt_17 ⟨Nat.le_of_ble_eq_true rfl, Nat.le_of_ble_eq_true rfl⟩) hS (fun q _ h => hFc q h) hFc (fun r_3 u_3 t H1 locs ht hvm e_3 hB hz1 hk1 hS => ?_)
    try dsimp only at e_3
    have hP := zz_keep hP hk1
    clear hk1 hB ht hvm
    generalize H1 = H at hP hS ⊢
    refine zz_seti (zz_so (zz_cs fb nt (ka + j))) e_3 ?_
    refine lv_iconst (v := 2) hx hb dX0_numberAt_20 (by decide) ?_
    refine lv_icmp_ne (tgt := 50) hx hb dX0_numberAt_21 (by decide) (fun c_4 => ?_) (fun c_4 => ?_)
    · have zc_4 := c_4
      rw [← Int32.toInt_inj] at zc_4
      try rw [show (2 : Int32).toInt = 2 from by decide] at zc_4
      refine lv_iload_n hx hb dX0_numberAt_50 rfl (lv_at hl 2 rfl) ?_
      exact W.iret (v := (nI (zz_nv (zz_cs fb nt) ka j))) hx hb hr (fun t ht hW => ⟨⟨(nI (zz_nv (zz_cs fb nt) ka j)), (), rfl, (by rw [zz_rl_eq (nt - ka) ka j (by omega) ir (fun hm => c_4)]), trivial⟩, hS.F ht⟩) hS.2.2 dX0_numberAt_51
    · have zc_4 := c_4
      rw [← Int32.toInt_inj] at zc_4
      try rw [show (2 : Int32).toInt = 2 from by decide] at zc_4
      refine lv_sipush (v := 1000) hx hb dX0_numberAt_24 (by decide) ?_
      refine lv_iload_n hx hb dX0_numberAt_27 rfl (lv_at hl 2 rfl) ?_
      refine lv_bipush (v := 10) hx hb dX0_numberAt_28 (by decide) ?_
      refine lv_imul hx hb dX0_numberAt_30 ?_
      refine lv_aload_n hx hb dX0_numberAt_31 rfl (lv_at hl 0 rfl) ?_
      refine lv_iload_n hx hb dX0_numberAt_32 rfl (lv_at hl 3 rfl) ?_
      obtain ⟨hPc, hDc⟩ := zz_sub2 (ws' := [(a 24, .inr (6, [.ref (a 25), .int (nI nt)])), (a 25, .inl (cI, 200, .inl fb))]) hP hD [0, 1] (by decide) rfl
      have hKc := hK.sub (tys' := [(cI, .int)]) [0] rfl
      have hFc := zz_free0 hS hA
      refine va_calli (va_runVN (As := [.int (nI (ka + j))]) (rest := [.int ((nI (zz_nv (zz_cs fb nt) ka j)) * 10), .int 1000]) ⟨hx, hb, hml, hown, hw⟩ (kx_at l dC dI a cI nt fb (nI (ka + j)) H.size (by omega)) ⟨va_cnB 1 hw (zz_good tw_353) rfl rfl rfl (hN.1 _ zz_n48) (hw _ tw_99) (by decide +kernel) ⟨Nat.le_of_ble_eq_true rfl, Nat.le_of_ble_eq_true rfl⟩, (hw _ tw_354), (hw _ tw_355)⟩ ⟨zz_blind, va_recv hKc hPc (ci := 6) (q0 := 0) rfl rfl, zz_pre hPc hKc hDc hN⟩ rfl rfl hl.1 rfl (lv_room (Nat.le_of_ble_eq_true rfl)) dX0_numberAt_33 ⟨Nat.le_of_ble_eq_true rfl, Nat.le_of_ble_eq_true rfl⟩) hS (fun q _ h => hFc q h) hFc (fun r_5 u_5 t H1 locs ht hvm e_5 hB hz1 hk1 hS => ?_)
      try dsimp only at e_5
      have hP := zz_keep hP hk1
      clear hk1 hB ht hvm
      generalize H1 = H at hP hS ⊢
      refine zz_seti (zz_cs fb nt (ka + j)) (e_5.trans (zz_ca_n (by omega))) ?_
      refine lv_iadd hx hb dX0_numberAt_36 ?_
      refine lv_bipush (v := 48) hx hb dX0_numberAt_37 (by decide) ?_
      refine lv_isub hx hb dX0_numberAt_39 ?_
      refine va_mmin hx hb (by rw [hml]; exact hl.1.symm) hown (hw _ tw_360) (hw _ tw_27) (hw _ tw_28) (hw _ tw_29) (Nat.le_of_ble_eq_true rfl) (Nat.le_of_ble_eq_true rfl) (Nat.le_of_ble_eq_true rfl) (Nat.le_of_ble_eq_true rfl) dX0_numberAt_40 ?_
      refine zz_seti (nI (zz_nv (zz_cs fb nt) ka (j + 1))) (zz_nv_step c_4) ?_
      refine lv_istore_n (lv' := [(2, .int (nI (zz_nv (zz_cs fb nt) ka (j + 1)))), (0, .ref (a 24)), (1, .int (nI ka)), (3, .int (nI (ka + j)))]) hx hb dX0_numberAt_43 rfl hl (by decide) rfl (fun ls hl => ?_)
      refine lv_iinc (v := (nI ((ka + j) + 1))) (lv' := [(3, .int (nI ((ka + j) + 1))), (2, .int (nI (zz_nv (zz_cs fb nt) ka (j + 1)))), (0, .ref (a 24)), (1, .int (nI ka))]) hx hb dX0_numberAt_44 hl (k := 3) rfl (nI_1 _) (by decide) rfl (fun ls hl => ?_)
      refine lv_goto (tgt := 4) hx hb dX0_numberAt_47 (by decide) ?_
      exact ih_4 (j + 1) ⟨by omega, zz_run_ext ir c_4⟩ (show nt - (ka + (j + 1)) < nt - (ka + j) from by omega) _ _ _ (hP.sub [0, 1] rfl) (hD.sub [0, 1] (by decide) rfl) hS (lv_sub hl [2, 3, 1, 0] rfl)
