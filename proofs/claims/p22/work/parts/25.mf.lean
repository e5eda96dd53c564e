theorem tw_266 : Cond.constantLong RX8 148 97 ∈ zz_all := zz_m4 122 rfl rfl
theorem tw_267 : Cond.constantLong RX8 150 122 ∈ zz_all := zz_m4 123 rfl rfl
theorem tw_268 : Cond.constantLong RX8 152 65 ∈ zz_all := zz_m4 124 rfl rfl
theorem tw_269 : Cond.constantLong RX8 154 90 ∈ zz_all := zz_m4 125 rfl rfl
theorem tw_270 : Cond.fieldLink RX8 196 "HandsReturnedModel" "wrong" "I" ∈ zz_all := zz_m3 171 rfl rfl
theorem tw_271 : Cond.fieldLink RX8 173 "HandsReturnedModel" "token" "I" ∈ zz_all := zz_m3 168 rfl rfl
theorem tw_272 : Cond.fieldLink RX8 199 "HandsReturnedModel" "wrongAt" "I" ∈ zz_all := zz_m3 172 rfl rfl
theorem zy_b25mf_0 : decode cX8_isLetter 0 = .ok (.iload_n 0, 1) ∧ decode cX8_isLetter 1 = .ok (.i2l, 1) ∧ decode cX8_isLetter 2 = .ok (.ldc2_w 148, 3) ∧ decode cX8_isLetter 5 = .ok (.ldc2_w 150, 3) ∧ decode cX8_isLetter 8 = .ok (.invokestatic 118, 3) ∧ decode cX8_isLetter 11 = .ok (.ifCond .ne 17, 3) ∧ decode cX8_isLetter 14 = .ok (.iload_n 0, 1) ∧ decode cX8_isLetter 15 = .ok (.i2l, 1) := by decide +kernel
theorem dX8_isLetter_0 : decode cX8_isLetter 0 = .ok (.iload_n 0, 1) := zy_b25mf_0.1
theorem dX8_isLetter_1 : decode cX8_isLetter 1 = .ok (.i2l, 1) := zy_b25mf_0.2.1
theorem dX8_isLetter_2 : decode cX8_isLetter 2 = .ok (.ldc2_w 148, 3) := zy_b25mf_0.2.2.1
theorem dX8_isLetter_5 : decode cX8_isLetter 5 = .ok (.ldc2_w 150, 3) := zy_b25mf_0.2.2.2.1
theorem dX8_isLetter_8 : decode cX8_isLetter 8 = .ok (.invokestatic 118, 3) := zy_b25mf_0.2.2.2.2.1
theorem dX8_isLetter_11 : decode cX8_isLetter 11 = .ok (.ifCond .ne 17, 3) := zy_b25mf_0.2.2.2.2.2.1
theorem dX8_isLetter_14 : decode cX8_isLetter 14 = .ok (.iload_n 0, 1) := zy_b25mf_0.2.2.2.2.2.2.1
theorem dX8_isLetter_15 : decode cX8_isLetter 15 = .ok (.i2l, 1) := zy_b25mf_0.2.2.2.2.2.2.2
theorem zy_b25mf_1 : decode cX8_isLetter 16 = .ok (.ldc2_w 152, 3) ∧ decode cX8_isLetter 19 = .ok (.ldc2_w 154, 3) ∧ decode cX8_isLetter 22 = .ok (.invokestatic 118, 3) ∧ decode cX8_isLetter 25 = .ok (.ifCond .eq 7, 3) ∧ decode cX8_isLetter 28 = .ok (.iconst 1, 1) ∧ decode cX8_isLetter 29 = .ok (.goto 4, 3) ∧ decode cX8_isLetter 32 = .ok (.iconst 0, 1) ∧ decode cX8_isLetter 33 = .ok (.ireturn, 1) := by decide +kernel
theorem dX8_isLetter_16 : decode cX8_isLetter 16 = .ok (.ldc2_w 152, 3) := zy_b25mf_1.1
theorem dX8_isLetter_19 : decode cX8_isLetter 19 = .ok (.ldc2_w 154, 3) := zy_b25mf_1.2.1
theorem dX8_isLetter_22 : decode cX8_isLetter 22 = .ok (.invokestatic 118, 3) := zy_b25mf_1.2.2.1
theorem dX8_isLetter_25 : decode cX8_isLetter 25 = .ok (.ifCond .eq 7, 3) := zy_b25mf_1.2.2.2.1
theorem dX8_isLetter_28 : decode cX8_isLetter 28 = .ok (.iconst 1, 1) := zy_b25mf_1.2.2.2.2.1
theorem dX8_isLetter_29 : decode cX8_isLetter 29 = .ok (.goto 4, 3) := zy_b25mf_1.2.2.2.2.2.1
theorem dX8_isLetter_32 : decode cX8_isLetter 32 = .ok (.iconst 0, 1) := zy_b25mf_1.2.2.2.2.2.2.1
theorem dX8_isLetter_33 : decode cX8_isLetter 33 = .ok (.ireturn, 1) := zy_b25mf_1.2.2.2.2.2.2.2
theorem zy_b25mf_2 : decode cX8_fails 0 = .ok (.aload_n 0, 1) ∧ decode cX8_fails 1 = .ok (.getfield 196, 3) ∧ decode cX8_fails 4 = .ok (.ifCond .ne 16, 3) ∧ decode cX8_fails 7 = .ok (.aload_n 0, 1) ∧ decode cX8_fails 8 = .ok (.iload_n 1, 1) ∧ decode cX8_fails 9 = .ok (.putfield 196, 3) ∧ decode cX8_fails 12 = .ok (.aload_n 0, 1) ∧ decode cX8_fails 13 = .ok (.aload_n 0, 1) := by decide +kernel
theorem dX8_fails_0 : decode cX8_fails 0 = .ok (.aload_n 0, 1) := zy_b25mf_2.1
theorem dX8_fails_1 : decode cX8_fails 1 = .ok (.getfield 196, 3) := zy_b25mf_2.2.1
theorem dX8_fails_4 : decode cX8_fails 4 = .ok (.ifCond .ne 16, 3) := zy_b25mf_2.2.2.1
theorem dX8_fails_7 : decode cX8_fails 7 = .ok (.aload_n 0, 1) := zy_b25mf_2.2.2.2.1
theorem dX8_fails_8 : decode cX8_fails 8 = .ok (.iload_n 1, 1) := zy_b25mf_2.2.2.2.2.1
theorem dX8_fails_9 : decode cX8_fails 9 = .ok (.putfield 196, 3) := zy_b25mf_2.2.2.2.2.2.1
theorem dX8_fails_12 : decode cX8_fails 12 = .ok (.aload_n 0, 1) := zy_b25mf_2.2.2.2.2.2.2.1
theorem dX8_fails_13 : decode cX8_fails 13 = .ok (.aload_n 0, 1) := zy_b25mf_2.2.2.2.2.2.2.2
theorem zy_b25mf_3 : decode cX8_fails 14 = .ok (.getfield 173, 3) ∧ decode cX8_fails 17 = .ok (.putfield 199, 3) ∧ decode cX8_fails 20 = .ok (.return_, 1) := by decide +kernel
theorem dX8_fails_14 : decode cX8_fails 14 = .ok (.getfield 173, 3) := zy_b25mf_3.1
theorem dX8_fails_17 : decode cX8_fails 17 = .ok (.putfield 199, 3) := zy_b25mf_3.2.1
theorem dX8_fails_20 : decode cX8_fails 20 = .ok (.return_, 1) := zy_b25mf_3.2.2
theorem zz_rg_set {f : Nat → Int32} {n i : Nat} {lo hi : Int} {x : Int32} (h : zz_rg f n lo hi) (hx : lo ≤ x.toInt ∧ x.toInt ≤ hi) : zz_rg (upd f i x) n lo hi := by
  intro k hk
  by_cases e : k = i
  · simp only [upd, if_pos e]; exact hx
  · simp only [upd, if_neg e]; exact h k hk
theorem zz_rg_le {f : Nat → Int32} {n m : Nat} {lo hi : Int} (h : zz_rg f n lo hi) (hm : m ≤ n) : zz_rg f m lo hi := fun k hk => h k (by omega)
def zz_il (x : Int32) : Int32 := if (97 ≤ x.toInt ∧ x.toInt ≤ 122) ∨ (65 ≤ x.toInt ∧ x.toInt ≤ 90) then 1 else 0
set_option maxHeartbeats 4000000 in
set_option maxRecDepth 100000 in
theorem m_isLetter (l : Launch) (dC : Nat → ClassId) (dI : Nat → Nat → Nat) (p0 : Int32) (sz : Nat) : Met l yX8_isLetter (zz_w yX8_isLetter cX8_isLetter 1 (some .boolean)) ({ frames := 1, cells := 0, slots := 0, locals := 25 }) (va_Pc [.int p0] (zz_B (dC, dI) sz [] [])) (va_Qi (fun (r : Int32) (_ : Unit) => r = zz_il p0) (fun _ _ => True) (va_A [] sz)) 0 0 (va_A [] sz) := by
  refine Met.ofW (cc := cX8_isLetter) (maxL := 1) (ret := (some .boolean)) (by decide) rfl ?_
  intro p e s m args below meth c s₁ B hml hv
  obtain ⟨rfl, hsz, hP, hK, hD0, hN⟩ := hv
  have hx := B.exec
  have hb := B.bytes
  have hr := B.returns
  have hts := atoms_spec (ws := zz_w yX8_isLetter cX8_isLetter 1 (some .boolean)) B.pre
  have hw : ∀ w ∈ zz_all, w.before _ s = true := fun w h => hts w (List.mem_cons_of_mem _ h)
  have hown : s.vm.findClass RX8 = some m.cls := findClass_of_methodNamed B.named
  have hlocks := B.notSynchronized
  subst hsz
  have hD := hD0
  generalize hAe : va_A [] s.heap.size = A
  have hA : ∀ q : Nat, s.heap.size ≤ q → A q := fun q h => by rw [← hAe]; exact Or.inr h
  have hS : va_S A s.heap s.heap [] := va_S.rf
  have hP : va_P (dC, dI) vwCl [] s.heap := hP
  have hl := lv_entry ([.int p0]) (n := 1) (Nat.le_of_ble_eq_true rfl)
  rw [lg_entry_eq]
  generalize (lg_sl ([.int p0]) ++ List.replicate (1 - (lg_sl ([.int p0])).length) Slot.unset).toArray = ls at hl ⊢
  have hl : lv_has ls 1 [(0, .int p0)] := hl
  refine lv_iload_n hx hb dX8_isLetter_0 rfl (lv_at hl 0 rfl) ?_
  refine lv_i2l (v := Int32.toInt64 p0) hx hb dX8_isLetter_1 rfl ?_
  refine lv_ldc2 (v := 97) hx hb hown (hw _ tw_266) dX8_isLetter_2 ?_
  refine zz_setl (Int32.toInt64 97) (by decide) ?_
  refine lv_ldc2 (v := 122) hx hb hown (hw _ tw_267) dX8_isLetter_5 ?_
  refine zz_setl (Int32.toInt64 122) (by decide) ?_
  obtain ⟨hPc, hDc⟩ := zz_sub2 (ws' := []) hP hD [] (by decide) rfl
  have hKc := hK.sub (tys' := []) [] rfl
  have hFc := zz_free0 hS hA
  refine va_calli (va_runS (As := [.long (Int32.toInt64 p0), .long (Int32.toInt64 97), .long (Int32.toInt64 122)]) (rest := []) ⟨hx, hb, hml, hown, hw⟩ (k_in l dC dI p0 97 122 s.heap.size) ⟨callB_of 3 hw (zz_good tw_183) rfl rfl rfl (hw _ tw_184) (hw _ tw_185) (by decide +kernel) ⟨Nat.le_of_ble_eq_true rfl, Nat.le_of_ble_eq_true rfl⟩, (hw _ tw_186)⟩ ⟨zz_blind, zz_pre hPc hKc hDc hN⟩ rfl rfl hl.1 rfl (lv_room (Nat.le_of_ble_eq_true rfl)) dX8_isLetter_8 ⟨Nat.le_of_ble_eq_true rfl, Nat.le_of_ble_eq_true rfl⟩) hS (fun q _ h => hFc q h) hFc (fun r_1 u_1 t H1 locs ht hvm e_1 hB hz1 hk1 hS => ?_)
  try dsimp only at e_1
  have hP := zz_keep hP hk1
  clear hk1 hB ht hvm
  generalize H1 = H at hP hS ⊢
  refine lv_if_ne (tgt := 28) hx hb dX8_isLetter_11 (by decide) (fun c_2 => ?_) (fun c_2 => ?_)
  · have zc_2 := c_2
    rw [e_1, zz_in0, Int32.le_iff_toInt_le, Int32.le_iff_toInt_le] at zc_2
    try rw [show (97 : Int32).toInt = 97 from by decide] at zc_2
    try rw [show (122 : Int32).toInt = 122 from by decide] at zc_2
    refine lv_iconst (v := 1) hx hb dX8_isLetter_28 (by decide) ?_
    refine lv_goto (tgt := 33) hx hb dX8_isLetter_29 (by decide) ?_
    exact W.zret (v := 1) hx hb hr (rfl) (fun t ht hW => ⟨⟨1, (), rfl, (by unfold zz_il; first | exact (if_pos (by omega)).symm | exact (if_neg (by omega)).symm), trivial⟩, hS.F ht⟩) hS.2.2 dX8_isLetter_33
  · have zc_2 := c_2
    rw [e_1, zz_in0, Int32.le_iff_toInt_le, Int32.le_iff_toInt_le] at zc_2
    try rw [show (97 : Int32).toInt = 97 from by decide] at zc_2
    try rw [show (122 : Int32).toInt = 122 from by decide] at zc_2
    refine lv_iload_n hx hb dX8_isLetter_14 rfl (lv_at hl 0 rfl) ?_
    refine lv_i2l (v := Int32.toInt64 p0) hx hb dX8_isLetter_15 rfl ?_
    refine lv_ldc2 (v := 65) hx hb hown (hw _ tw_268) dX8_isLetter_16 ?_
    refine zz_setl (Int32.toInt64 65) (by decide) ?_
    refine lv_ldc2 (v := 90) hx hb hown (hw _ tw_269) dX8_isLetter_19 ?_
    refine zz_setl (Int32.toInt64 90) (by decide) ?_
    obtain ⟨hPc, hDc⟩ := zz_sub2 (ws' := []) hP hD [] (by decide) rfl
    have hKc := hK.sub (tys' := []) [] rfl
    have hFc := zz_free0 hS hA
    refine va_calli (va_runS (As := [.long (Int32.toInt64 p0), .long (Int32.toInt64 65), .long (Int32.toInt64 90)]) (rest := []) ⟨hx, hb, hml, hown, hw⟩ (k_in l dC dI p0 65 90 H.size) ⟨callB_of 3 hw (zz_good tw_183) rfl rfl rfl (hw _ tw_184) (hw _ tw_185) (by decide +kernel) ⟨Nat.le_of_ble_eq_true rfl, Nat.le_of_ble_eq_true rfl⟩, (hw _ tw_186)⟩ ⟨zz_blind, zz_pre hPc hKc hDc hN⟩ rfl rfl hl.1 rfl (lv_room (Nat.le_of_ble_eq_true rfl)) dX8_isLetter_22 ⟨Nat.le_of_ble_eq_true rfl, Nat.le_of_ble_eq_true rfl⟩) hS (fun q _ h => hFc q h) hFc (fun r_3 u_3 t H1 locs ht hvm e_3 hB hz1 hk1 hS => ?_)
    try dsimp only at e_3
    have hP := zz_keep hP hk1
    clear hk1 hB ht hvm
    generalize H1 = H at hP hS ⊢
    refine lv_if_eq (tgt := 32) hx hb dX8_isLetter_25 (by decide) (fun c_4 => ?_) (fun c_4 => ?_)
    · have zc_4 := c_4
      rw [e_3, zz_in0, Int32.le_iff_toInt_le, Int32.le_iff_toInt_le] at zc_4
      try rw [show (65 : Int32).toInt = 65 from by decide] at zc_4
      try rw [show (90 : Int32).toInt = 90 from by decide] at zc_4
      refine lv_iconst (v := 0) hx hb dX8_isLetter_32 (by decide) ?_
      exact W.zret (v := 0) hx hb hr (rfl) (fun t ht hW => ⟨⟨0, (), rfl, (by unfold zz_il; first | exact (if_pos (by omega)).symm | exact (if_neg (by omega)).symm), trivial⟩, hS.F ht⟩) hS.2.2 dX8_isLetter_33
    · have zc_4 := c_4
      rw [e_3, zz_in0, Int32.le_iff_toInt_le, Int32.le_iff_toInt_le] at zc_4
      try rw [show (65 : Int32).toInt = 65 from by decide] at zc_4
      try rw [show (90 : Int32).toInt = 90 from by decide] at zc_4
      refine lv_iconst (v := 1) hx hb dX8_isLetter_28 (by decide) ?_
      refine lv_goto (tgt := 33) hx hb dX8_isLetter_29 (by decide) ?_
      exact W.zret (v := 1) hx hb hr (rfl) (fun t ht hW => ⟨⟨1, (), rfl, (by unfold zz_il; first | exact (if_pos (by omega)).symm | exact (if_neg (by omega)).symm), trivial⟩, hS.F ht⟩) hS.2.2 dX8_isLetter_33
