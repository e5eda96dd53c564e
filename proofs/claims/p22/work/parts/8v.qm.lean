set_option maxHeartbeats 4000000 in
set_option maxRecDepth 100000 in
theorem kx_begin (l : Launch) (dC : Nat → ClassId) (dI : Nat → Nat → Nat) (a : Nat → Nat) (np : Nat) (cc : Nat) (td : Int32) (hd : Int32) (nt0 : Nat) (p1 : Int32) (sz : Nat) (hp1 : 1 ≤ p1.toInt ∧ p1.toInt ≤ 99) : Met l yX5_begin (zz_w yX5_begin cX5_begin 3 none) ({ frames := 1, cells := 0, slots := 0, locals := 14 }) (va_Pc [.ref (a 43), .int (nI nt0), .int p1] (zz_B (dC, dI) sz [(a 43, .inr (5, [.ref (a 44), .ref (a 45), .ref (a 46), .ref (a 47), .ref (a 48), .ref (a 49), .ref (a 50), .ref (a 51), .int (nI cc), .int (nI np), .int td, .int hd]))] [])) (va_Qv (fun (_ : Unit) => True) (fun (_ : Unit) (t : State) => va_P (dC, dI) vwCl [(a 43, .inr (5, [.ref (a 44), .ref (a 45), .ref (a 46), .ref (a 47), .ref (a 48), .ref (a 49), .ref (a 50), .ref (a 51), .int (nI cc), .int (nI 0), .int (nI nt0), .int p1]))] t.heap ∧ va_K (dC, dI) vwCl [] t ∧ va_D (va_A [(a 43, .inr (5, [.ref (a 44), .ref (a 45), .ref (a 46), .ref (a 47), .ref (a 48), .ref (a 49), .ref (a 50), .ref (a 51), .int (nI cc), .int (nI np), .int td, .int hd]))] sz) [(a 43, .inr (5, [.ref (a 44), .ref (a 45), .ref (a 46), .ref (a 47), .ref (a 48), .ref (a 49), .ref (a 50), .ref (a 51), .int (nI cc), .int (nI 0), .int (nI nt0), .int p1]))]) (va_A [(a 43, .inr (5, [.ref (a 44), .ref (a 45), .ref (a 46), .ref (a 47), .ref (a 48), .ref (a 49), .ref (a 50), .ref (a 51), .int (nI cc), .int (nI np), .int td, .int hd]))] sz)) 0 0 (va_A [(a 43, .inr (5, [.ref (a 44), .ref (a 45), .ref (a 46), .ref (a 47), .ref (a 48), .ref (a 49), .ref (a 50), .ref (a 51), .int (nI cc), .int (nI np), .int td, .int hd]))] sz) := by
  refine Met.ofW (cc := cX5_begin) (maxL := 3) (ret := none) (by decide) rfl ?_
  intro p e s m args below meth c s₁ B hml hv
  obtain ⟨rfl, hsz, hP, hK, hD0, hN⟩ := hv
  have hx := B.exec
  have hb := B.bytes
  have hr := B.returns
  have hts := atoms_spec (ws := zz_w yX5_begin cX5_begin 3 none) B.pre
  have hw : ∀ w ∈ zz_all, w.before _ s = true := fun w h => hts w (List.mem_cons_of_mem _ h)
  have hown : s.vm.findClass RX5 = some m.cls := findClass_of_methodNamed B.named
  have hlocks := B.notSynchronized
  subst hsz
  have hD := hD0.self (sz := s.heap.size)
  generalize hAe : va_A [(a 43, .inr (5, [.ref (a 44), .ref (a 45), .ref (a 46), .ref (a 47), .ref (a 48), .ref (a 49), .ref (a 50), .ref (a 51), .int (nI cc), .int (nI np), .int td, .int hd]))] s.heap.size = A at hD ⊢
  have hA : ∀ q : Nat, s.heap.size ≤ q → A q := fun q h => by rw [← hAe]; exact Or.inr h
  have hS : va_S A s.heap s.heap [] := va_S.rf
  have hP : va_P (dC, dI) vwCl [(a 43, .inr (5, [.ref (a 44), .ref (a 45), .ref (a 46), .ref (a 47), .ref (a 48), .ref (a 49), .ref (a 50), .ref (a 51), .int (nI cc), .int (nI np), .int td, .int hd]))] s.heap := hP
  have hl := lv_entry ([.ref (a 43), .int (nI nt0), .int p1]) (n := 3) (Nat.le_of_ble_eq_true rfl)
  rw [lg_entry_eq]
  generalize (lg_sl ([.ref (a 43), .int (nI nt0), .int p1]) ++ List.replicate (3 - (lg_sl ([.ref (a 43), .int (nI nt0), .int p1])).length) Slot.unset).toArray = ls at hl ⊢
  have hl : lv_has ls 3 [(0, .ref (a 43)), (1, .int (nI nt0)), (2, .int p1)] := hl
  refine lv_aload_n hx hb dX5_begin_0 rfl (lv_at hl 0 rfl) ?_
  refine lv_iconst (v := 0) hx hb dX5_begin_1 (by decide) ?_
  refine va_put (D := (dC, dI)) (ci := 5) (v := .int 0) (ty := .int) (C := RX5) (T := TX5) (N := 12) hx hb hw zz_inX5 tyX5 tyX5_ok nmX5 hown hK hP hD hS 0 rfl rfl 9 (by decide) (hw _ tw_142) (fun _ h9 => h9) rfl (by decide +kernel) rfl rfl (Nat.le_of_ble_eq_true rfl) dX5_begin_2 (fun H locs hP hD hS => ?_)
  obtain ⟨hP, hD⟩ := zz_ty (D := (dC, dI)) (cl := vwCl) (A := A) (H := H) [(a 43, .inr (5, [.ref (a 44), .ref (a 45), .ref (a 46), .ref (a 47), .ref (a 48), .ref (a 49), .ref (a 50), .ref (a 51), .int (nI cc), .int 0, .int td, .int hd]))] hP hD rfl
  refine lv_aload_n hx hb dX5_begin_5 rfl (lv_at hl 0 rfl) ?_
  refine lv_iload_n hx hb dX5_begin_6 rfl (lv_at hl 1 rfl) ?_
  refine va_put (D := (dC, dI)) (ci := 5) (v := .int (nI nt0)) (ty := .int) (C := RX5) (T := TX5) (N := 12) hx hb hw zz_inX5 tyX5 tyX5_ok nmX5 hown hK hP hD hS 0 rfl rfl 10 (by decide) (hw _ tw_143) (fun _ h9 => h9) rfl (by decide +kernel) rfl rfl (Nat.le_of_ble_eq_true rfl) dX5_begin_7 (fun H locs hP hD hS => ?_)
  obtain ⟨hP, hD⟩ := zz_ty (D := (dC, dI)) (cl := vwCl) (A := A) (H := H) [(a 43, .inr (5, [.ref (a 44), .ref (a 45), .ref (a 46), .ref (a 47), .ref (a 48), .ref (a 49), .ref (a 50), .ref (a 51), .int (nI cc), .int 0, .int (nI nt0), .int hd]))] hP hD rfl
  refine lv_aload_n hx hb dX5_begin_10 rfl (lv_at hl 0 rfl) ?_
  refine lv_iconst (v := 1) hx hb dX5_begin_11 (by decide) ?_
  refine lv_iload_n hx hb dX5_begin_12 rfl (lv_at hl 2 rfl) ?_
  refine va_mmax hx hb (by rw [hml]; exact hl.1.symm) hown (hw _ tw_144) (hw _ tw_37) (hw _ tw_28) (hw _ tw_38) (Nat.le_of_ble_eq_true rfl) (Nat.le_of_ble_eq_true rfl) (Nat.le_of_ble_eq_true rfl) (Nat.le_of_ble_eq_true rfl) dX5_begin_13 ?_
  refine zz_seti p1 (zz_mx1 hp1.1) ?_
  refine va_put (D := (dC, dI)) (ci := 5) (v := .int p1) (ty := .int) (C := RX5) (T := TX5) (N := 12) hx hb hw zz_inX5 tyX5 tyX5_ok nmX5 hown hK hP hD hS 0 rfl rfl 11 (by decide) (hw _ tw_145) (fun _ h9 => h9) rfl (by decide +kernel) rfl rfl (Nat.le_of_ble_eq_true rfl) dX5_begin_16 (fun H locs hP hD hS => ?_)
  obtain ⟨hP, hD⟩ := zz_ty (D := (dC, dI)) (cl := vwCl) (A := A) (H := H) [(a 43, .inr (5, [.ref (a 44), .ref (a 45), .ref (a 46), .ref (a 47), .ref (a 48), .ref (a 49), .ref (a 50), .ref (a 51), .int (nI cc), .int 0, .int (nI nt0), .int p1]))] hP hD rfl
  obtain ⟨hP9, hD9⟩ := zz_sub2 (ws' := [(a 43, .inr (5, [.ref (a 44), .ref (a 45), .ref (a 46), .ref (a 47), .ref (a 48), .ref (a 49), .ref (a 50), .ref (a 51), .int (nI cc), .int 0, .int (nI nt0), .int p1]))]) hP hD [0] (by decide) rfl
  have hK9 := hK.sub (tys' := []) [] rfl
  exact W.vret hx hb hr (fun t ht hW => ⟨⟨(), rfl, trivial, by rw [ht]; exact hP9, va_K.moved hW.alike hK9, hD9⟩, hS.F ht⟩) hS.2.2 dX5_begin_19
set_option maxHeartbeats 4000000 in
set_option maxRecDepth 100000 in
theorem kx_move (l : Launch) (dC : Nat → ClassId) (dI : Nat → Nat → Nat) (a : Nat → Nat) (cI : ClassId) (np : Nat) (cc : Nat) (nt0 : Nat) (hd : Int32) (q0 : Nat → Int32) (q1 : Nat → Int32) (q2 : Nat → Int32) (q3 : Nat → Int32) (q4 : Nat → Int32) (n1 : Nat) (n2 : Nat) (sz : Nat) (hn1 : n1 < 7) (hn2 : n2 < 7) : Met l yX5_move (zz_w yX5_move cX5_move 3 none) ({ frames := 0, cells := 0, slots := 0, locals := 0 }) (va_Pc [.ref (a 43), .int (nI n1), .int (nI n2)] (zz_B (dC, dI) sz [(a 43, .inr (5, [.ref (a 44), .ref (a 45), .ref (a 46), .ref (a 47), .ref (a 48), .ref (a 49), .ref (a 50), .ref (a 51), .int (nI cc), .int (nI np), .int (nI nt0), .int hd])), (a 44, .inl (cI, 7, .inl q0)), (a 45, .inl (cI, 7, .inl q1)), (a 46, .inl (cI, 7, .inl q2)), (a 47, .inl (cI, 7, .inl q3)), (a 48, .inl (cI, 7, .inl q4))] [(cI, .int)])) (va_Qv (fun (u : (Nat → Int32) × (Nat → Int32) × (Nat → Int32) × (Nat → Int32) × (Nat → Int32)) => match u with | (u0, u1, u2, u3, u4) => u0 = upd q0 (Int32.toNatClampNeg (nI n2)) (q0 n1) ∧ u1 = upd q1 (Int32.toNatClampNeg (nI n2)) (q1 n1) ∧ u2 = upd q2 (Int32.toNatClampNeg (nI n2)) (q2 n1) ∧ u3 = upd q3 (Int32.toNatClampNeg (nI n2)) (q3 n1) ∧ u4 = upd q4 (Int32.toNatClampNeg (nI n2)) (q4 n1)) (fun (u : (Nat → Int32) × (Nat → Int32) × (Nat → Int32) × (Nat → Int32) × (Nat → Int32)) (t : State) => match u with | (u0, u1, u2, u3, u4) => va_P (dC, dI) vwCl [(a 43, .inr (5, [.ref (a 44), .ref (a 45), .ref (a 46), .ref (a 47), .ref (a 48), .ref (a 49), .ref (a 50), .ref (a 51), .int (nI cc), .int (nI np), .int (nI nt0), .int hd])), (a 44, .inl (cI, 7, .inl u0)), (a 45, .inl (cI, 7, .inl u1)), (a 46, .inl (cI, 7, .inl u2)), (a 47, .inl (cI, 7, .inl u3)), (a 48, .inl (cI, 7, .inl u4))] t.heap ∧ va_K (dC, dI) vwCl [(cI, .int)] t ∧ va_D (va_A [(a 43, .inr (5, [.ref (a 44), .ref (a 45), .ref (a 46), .ref (a 47), .ref (a 48), .ref (a 49), .ref (a 50), .ref (a 51), .int (nI cc), .int (nI np), .int (nI nt0), .int hd])), (a 44, .inl (cI, 7, .inl q0)), (a 45, .inl (cI, 7, .inl q1)), (a 46, .inl (cI, 7, .inl q2)), (a 47, .inl (cI, 7, .inl q3)), (a 48, .inl (cI, 7, .inl q4))] sz) [(a 43, .inr (5, [.ref (a 44), .ref (a 45), .ref (a 46), .ref (a 47), .ref (a 48), .ref (a 49), .ref (a 50), .ref (a 51), .int (nI cc), .int (nI np), .int (nI nt0), .int hd])), (a 44, .inl (cI, 7, .inl u0)), (a 45, .inl (cI, 7, .inl u1)), (a 46, .inl (cI, 7, .inl u2)), (a 47, .inl (cI, 7, .inl u3)), (a 48, .inl (cI, 7, .inl u4))]) (va_A [(a 43, .inr (5, [.ref (a 44), .ref (a 45), .ref (a 46), .ref (a 47), .ref (a 48), .ref (a 49), .ref (a 50), .ref (a 51), .int (nI cc), .int (nI np), .int (nI nt0), .int hd])), (a 44, .inl (cI, 7, .inl q0)), (a 45, .inl (cI, 7, .inl q1)), (a 46, .inl (cI, 7, .inl q2)), (a 47, .inl (cI, 7, .inl q3)), (a 48, .inl (cI, 7, .inl q4))] sz)) 0 0 (va_A [(a 43, .inr (5, [.ref (a 44), .ref (a 45), .ref (a 46), .ref (a 47), .ref (a 48), .ref (a 49), .ref (a 50), .ref (a 51), .int (nI cc), .int (nI np), .int (nI nt0), .int hd])), (a 44, .inl (cI, 7, .inl q0)), (a 45, .inl (cI, 7, .inl q1)), (a 46, .inl (cI, 7, .inl q2)), (a 47, .inl (cI, 7, .inl q3)), (a 48, .inl (cI, 7, .inl q4))] sz) := by
  refine Met.ofW (cc := cX5_move) (maxL := 3) (ret := none) (by decide) rfl ?_
  intro p e s m args below meth c s₁ B hml hv
  obtain ⟨rfl, hsz, hP, hK, hD0, hN⟩ := hv
  have hx := B.exec
  have hb := B.bytes
  have hr := B.returns
  have hts := atoms_spec (ws := zz_w yX5_move cX5_move 3 none) B.pre
  have hw : ∀ w ∈ zz_all, w.before _ s = true := fun w h => hts w (List.mem_cons_of_mem _ h)
  have hown : s.vm.findClass RX5 = some m.cls := findClass_of_methodNamed B.named
  have hlocks := B.notSynchronized
  subst hsz
  have hD := hD0.self (sz := s.heap.size)
  generalize hAe : va_A [(a 43, .inr (5, [.ref (a 44), .ref (a 45), .ref (a 46), .ref (a 47), .ref (a 48), .ref (a 49), .ref (a 50), .ref (a 51), .int (nI cc), .int (nI np), .int (nI nt0), .int hd])), (a 44, .inl (cI, 7, .inl q0)), (a 45, .inl (cI, 7, .inl q1)), (a 46, .inl (cI, 7, .inl q2)), (a 47, .inl (cI, 7, .inl q3)), (a 48, .inl (cI, 7, .inl q4))] s.heap.size = A at hD ⊢
  have hA : ∀ q : Nat, s.heap.size ≤ q → A q := fun q h => by rw [← hAe]; exact Or.inr h
  have hS : va_S A s.heap s.heap [] := va_S.rf
  have hP : va_P (dC, dI) vwCl [(a 43, .inr (5, [.ref (a 44), .ref (a 45), .ref (a 46), .ref (a 47), .ref (a 48), .ref (a 49), .ref (a 50), .ref (a 51), .int (nI cc), .int (nI np), .int (nI nt0), .int hd])), (a 44, .inl (cI, 7, .inl q0)), (a 45, .inl (cI, 7, .inl q1)), (a 46, .inl (cI, 7, .inl q2)), (a 47, .inl (cI, 7, .inl q3)), (a 48, .inl (cI, 7, .inl q4))] s.heap := hP
  have hl := lv_entry ([.ref (a 43), .int (nI n1), .int (nI n2)]) (n := 3) (Nat.le_of_ble_eq_true rfl)
  rw [lg_entry_eq]
  generalize (lg_sl ([.ref (a 43), .int (nI n1), .int (nI n2)]) ++ List.replicate (3 - (lg_sl ([.ref (a 43), .int (nI n1), .int (nI n2)])).length) Slot.unset).toArray = ls at hl ⊢
  have hl : lv_has ls 3 [(0, .ref (a 43)), (1, .int (nI n1)), (2, .int (nI n2))] := hl
  refine lv_aload_n hx hb dX5_move_0 rfl (lv_at hl 0 rfl) ?_
  refine va_get (D := (dC, dI)) (ci := 5) (v := .ref (a 44)) (C := RX5) (T := TX5) (N := 12) hx hb hw zz_inX5 hown hK hP 0 rfl rfl 0 (by decide) (hw _ tw_146) (fun _ h9 => h9) rfl dX5_move_1 ?_
  refine lv_iload_n hx hb dX5_move_4 rfl (lv_at hl 2 rfl) ?_
  refine lv_aload_n hx hb dX5_move_5 rfl (lv_at hl 0 rfl) ?_
  refine va_get (D := (dC, dI)) (ci := 5) (v := .ref (a 44)) (C := RX5) (T := TX5) (N := 12) hx hb hw zz_inX5 hown hK hP 0 rfl rfl 0 (by decide) (hw _ tw_146) (fun _ h9 => h9) rfl dX5_move_6 ?_
  refine lv_iload_n hx hb dX5_move_9 rfl (lv_at hl 1 rfl) ?_
  refine va_iald hx hb hK hP 1 0 rfl rfl (vp_in_iff.mpr (by rw [zz_toInt n1 (by omega)]; constructor <;> omega)) dX5_move_10 ?_
  refine zz_seti (q0 n1) (congrArg q0 (zz_cl (by omega))) ?_
  refine va_iast hx hb hK hP hD hS 1 0 rfl rfl (vp_in_iff.mpr (by rw [zz_toInt n2 (by omega)]; constructor <;> omega)) dX5_move_11 (fun H locs hP hD hS => ?_)
  obtain ⟨hP, hD⟩ := zz_ty (D := (dC, dI)) (cl := vwCl) (A := A) (H := H) [(a 43, .inr (5, [.ref (a 44), .ref (a 45), .ref (a 46), .ref (a 47), .ref (a 48), .ref (a 49), .ref (a 50), .ref (a 51), .int (nI cc), .int (nI np), .int (nI nt0), .int hd])), (a 44, .inl (cI, 7, .inl (upd q0 (Int32.toNatClampNeg (nI n2)) (q0 n1)))), (a 45, .inl (cI, 7, .inl q1)), (a 46, .inl (cI, 7, .inl q2)), (a 47, .inl (cI, 7, .inl q3)), (a 48, .inl (cI, 7, .inl q4))] hP hD rfl
  refine lv_aload_n hx hb dX5_move_12 rfl (lv_at hl 0 rfl) ?_
  refine va_get (D := (dC, dI)) (ci := 5) (v := .ref (a 45)) (C := RX5) (T := TX5) (N := 12) hx hb hw zz_inX5 hown hK hP 0 rfl rfl 1 (by decide) (hw _ tw_147) (fun _ h9 => h9) rfl dX5_move_13 ?_
  refine lv_iload_n hx hb dX5_move_16 rfl (lv_at hl 2 rfl) ?_
  refine lv_aload_n hx hb dX5_move_17 rfl (lv_at hl 0 rfl) ?_
  refine va_get (D := (dC, dI)) (ci := 5) (v := .ref (a 45)) (C := RX5) (T := TX5) (N := 12) hx hb hw zz_inX5 hown hK hP 0 rfl rfl 1 (by decide) (hw _ tw_147) (fun _ h9 => h9) rfl dX5_move_18 ?_
  refine lv_iload_n hx hb dX5_move_21 rfl (lv_at hl 1 rfl) ?_
  refine va_iald hx hb hK hP 2 0 rfl rfl (vp_in_iff.mpr (by rw [zz_toInt n1 (by omega)]; constructor <;> omega)) dX5_move_22 ?_
  refine zz_seti (q1 n1) (congrArg q1 (zz_cl (by omega))) ?_
  refine va_iast hx hb hK hP hD hS 2 0 rfl rfl (vp_in_iff.mpr (by rw [zz_toInt n2 (by omega)]; constructor <;> omega)) dX5_move_23 (fun H locs hP hD hS => ?_)
  obtain ⟨hP, hD⟩ := zz_ty (D := (dC, dI)) (cl := vwCl) (A := A) (H := H) [(a 43, .inr (5, [.ref (a 44), .ref (a 45), .ref (a 46), .ref (a 47), .ref (a 48), .ref (a 49), .ref (a 50), .ref (a 51), .int (nI cc), .int (nI np), .int (nI nt0), .int hd])), (a 44, .inl (cI, 7, .inl (upd q0 (Int32.toNatClampNeg (nI n2)) (q0 n1)))), (a 45, .inl (cI, 7, .inl (upd q1 (Int32.toNatClampNeg (nI n2)) (q1 n1)))), (a 46, .inl (cI, 7, .inl q2)), (a 47, .inl (cI, 7, .inl q3)), (a 48, .inl (cI, 7, .inl q4))] hP hD rfl
  refine lv_aload_n hx hb dX5_move_24 rfl (lv_at hl 0 rfl) ?_
  refine va_get (D := (dC, dI)) (ci := 5) (v := .ref (a 46)) (C := RX5) (T := TX5) (N := 12) hx hb hw zz_inX5 hown hK hP 0 rfl rfl 2 (by decide) (hw _ tw_148) (fun _ h9 => h9) rfl dX5_move_25 ?_
  refine lv_iload_n hx hb dX5_move_28 rfl (lv_at hl 2 rfl) ?_
  refine lv_aload_n hx hb dX5_move_29 rfl (lv_at hl 0 rfl) ?_
  refine va_get (D := (dC, dI)) (ci := 5) (v := .ref (a 46)) (C := RX5) (T := TX5) (N := 12) hx hb hw zz_inX5 hown hK hP 0 rfl rfl 2 (by decide) (hw _ tw_148) (fun _ h9 => h9) rfl dX5_move_30 ?_
  refine lv_iload_n hx hb dX5_move_33 rfl (lv_at hl 1 rfl) ?_
  refine va_iald hx hb hK hP 3 0 rfl rfl (vp_in_iff.mpr (by rw [zz_toInt n1 (by omega)]; constructor <;> omega)) dX5_move_34 ?_
  refine zz_seti (q2 n1) (congrArg q2 (zz_cl (by omega))) ?_
  refine va_iast hx hb hK hP hD hS 3 0 rfl rfl (vp_in_iff.mpr (by rw [zz_toInt n2 (by omega)]; constructor <;> omega)) dX5_move_35 (fun H locs hP hD hS => ?_)
  obtain ⟨hP, hD⟩ := zz_ty (D := (dC, dI)) (cl := vwCl) (A := A) (H := H) [(a 43, .inr (5, [.ref (a 44), .ref (a 45), .ref (a 46), .ref (a 47), .ref (a 48), .ref (a 49), .ref (a 50), .ref (a 51), .int (nI cc), .int (nI np), .int (nI nt0), .int hd])), (a 44, .inl (cI, 7, .inl (upd q0 (Int32.toNatClampNeg (nI n2)) (q0 n1)))), (a 45, .inl (cI, 7, .inl (upd q1 (Int32.toNatClampNeg (nI n2)) (q1 n1)))), (a 46, .inl (cI, 7, .inl (upd q2 (Int32.toNatClampNeg (nI n2)) (q2 n1)))), (a 47, .inl (cI, 7, .inl q3)), (a 48, .inl (cI, 7, .inl q4))] hP hD rfl
  refine lv_aload_n hx hb dX5_move_36 rfl (lv_at hl 0 rfl) ?_
  refine va_get (D := (dC, dI)) (ci := 5) (v := .ref (a 47)) (C := RX5) (T := TX5) (N := 12) hx hb hw zz_inX5 hown hK hP 0 rfl rfl 3 (by decide) (hw _ tw_149) (fun _ h9 => h9) rfl dX5_move_37 ?_
  refine lv_iload_n hx hb dX5_move_40 rfl (lv_at hl 2 rfl) ?_
  refine lv_aload_n hx hb dX5_move_41 rfl (lv_at hl 0 rfl) ?_
  refine va_get (D := (dC, dI)) (ci := 5) (v := .ref (a 47)) (C := RX5) (T := TX5) (N := 12) hx hb hw zz_inX5 hown hK hP 0 rfl rfl 3 (by decide) (hw _ tw_149) (fun _ h9 => h9) rfl dX5_move_42 ?_
  refine lv_iload_n hx hb dX5_move_45 rfl (lv_at hl 1 rfl) ?_
  refine va_iald hx hb hK hP 4 0 rfl rfl (vp_in_iff.mpr (by rw [zz_toInt n1 (by omega)]; constructor <;> omega)) dX5_move_46 ?_
  refine zz_seti (q3 n1) (congrArg q3 (zz_cl (by omega))) ?_
  refine va_iast hx hb hK hP hD hS 4 0 rfl rfl (vp_in_iff.mpr (by rw [zz_toInt n2 (by omega)]; constructor <;> omega)) dX5_move_47 (fun H locs hP hD hS => ?_)
  obtain ⟨hP, hD⟩ := zz_ty (D := (dC, dI)) (cl := vwCl) (A := A) (H := H) [(a 43, .inr (5, [.ref (a 44), .ref (a 45), .ref (a 46), .ref (a 47), .ref (a 48), .ref (a 49), .ref (a 50), .ref (a 51), .int (nI cc), .int (nI np), .int (nI nt0), .int hd])), (a 44, .inl (cI, 7, .inl (upd q0 (Int32.toNatClampNeg (nI n2)) (q0 n1)))), (a 45, .inl (cI, 7, .inl (upd q1 (Int32.toNatClampNeg (nI n2)) (q1 n1)))), (a 46, .inl (cI, 7, .inl (upd q2 (Int32.toNatClampNeg (nI n2)) (q2 n1)))), (a 47, .inl (cI, 7, .inl (upd q3 (Int32.toNatClampNeg (nI n2)) (q3 n1)))), (a 48, .inl (cI, 7, .inl q4))] hP hD rfl
  refine lv_aload_n hx hb dX5_move_48 rfl (lv_at hl 0 rfl) ?_
  refine va_get (D := (dC, dI)) (ci := 5) (v := .ref (a 48)) (C := RX5) (T := TX5) (N := 12) hx hb hw zz_inX5 hown hK hP 0 rfl rfl 4 (by decide) (hw _ tw_150) (fun _ h9 => h9) rfl dX5_move_49 ?_
  refine lv_iload_n hx hb dX5_move_52 rfl (lv_at hl 2 rfl) ?_
  refine lv_aload_n hx hb dX5_move_53 rfl (lv_at hl 0 rfl) ?_
  refine va_get (D := (dC, dI)) (ci := 5) (v := .ref (a 48)) (C := RX5) (T := TX5) (N := 12) hx hb hw zz_inX5 hown hK hP 0 rfl rfl 4 (by decide) (hw _ tw_150) (fun _ h9 => h9) rfl dX5_move_54 ?_
  refine lv_iload_n hx hb dX5_move_57 rfl (lv_at hl 1 rfl) ?_
  refine va_iald hx hb hK hP 5 0 rfl rfl (vp_in_iff.mpr (by rw [zz_toInt n1 (by omega)]; constructor <;> omega)) dX5_move_58 ?_
  refine zz_seti (q4 n1) (congrArg q4 (zz_cl (by omega))) ?_
  refine va_iast hx hb hK hP hD hS 5 0 rfl rfl (vp_in_iff.mpr (by rw [zz_toInt n2 (by omega)]; constructor <;> omega)) dX5_move_59 (fun H locs hP hD hS => ?_)
  obtain ⟨hP, hD⟩ := zz_ty (D := (dC, dI)) (cl := vwCl) (A := A) (H := H) [(a 43, .inr (5, [.ref (a 44), .ref (a 45), .ref (a 46), .ref (a 47), .ref (a 48), .ref (a 49), .ref (a 50), .ref (a 51), .int (nI cc), .int (nI np), .int (nI nt0), .int hd])), (a 44, .inl (cI, 7, .inl (upd q0 (Int32.toNatClampNeg (nI n2)) (q0 n1)))), (a 45, .inl (cI, 7, .inl (upd q1 (Int32.toNatClampNeg (nI n2)) (q1 n1)))), (a 46, .inl (cI, 7, .inl (upd q2 (Int32.toNatClampNeg (nI n2)) (q2 n1)))), (a 47, .inl (cI, 7, .inl (upd q3 (Int32.toNatClampNeg (nI n2)) (q3 n1)))), (a 48, .inl (cI, 7, .inl (upd q4 (Int32.toNatClampNeg (nI n2)) (q4 n1))))] hP hD rfl
  obtain ⟨hP9, hD9⟩ := zz_sub2 (ws' := [(a 43, .inr (5, [.ref (a 44), .ref (a 45), .ref (a 46), .ref (a 47), .ref (a 48), .ref (a 49), .ref (a 50), .ref (a 51), .int (nI cc), .int (nI np), .int (nI nt0), .int hd])), (a 44, .inl (cI, 7, .inl (upd q0 (Int32.toNatClampNeg (nI n2)) (q0 n1)))), (a 45, .inl (cI, 7, .inl (upd q1 (Int32.toNatClampNeg (nI n2)) (q1 n1)))), (a 46, .inl (cI, 7, .inl (upd q2 (Int32.toNatClampNeg (nI n2)) (q2 n1)))), (a 47, .inl (cI, 7, .inl (upd q3 (Int32.toNatClampNeg (nI n2)) (q3 n1)))), (a 48, .inl (cI, 7, .inl (upd q4 (Int32.toNatClampNeg (nI n2)) (q4 n1))))]) hP hD [0, 1, 2, 3, 4, 5] (by decide) rfl
  have hK9 := hK.sub (tys' := [(cI, .int)]) [0] rfl
  exact W.vret hx hb hr (fun t ht hW => ⟨⟨((upd q0 (Int32.toNatClampNeg (nI n2)) (q0 n1)), (upd q1 (Int32.toNatClampNeg (nI n2)) (q1 n1)), (upd q2 (Int32.toNatClampNeg (nI n2)) (q2 n1)), (upd q3 (Int32.toNatClampNeg (nI n2)) (q3 n1)), (upd q4 (Int32.toNatClampNeg (nI n2)) (q4 n1))), rfl, ⟨rfl, rfl, rfl, rfl, rfl⟩, by rw [ht]; exact hP9, va_K.moved hW.alike hK9, hD9⟩, hS.F ht⟩) hS.2.2 dX5_move_60
set_option maxHeartbeats 4000000 in
set_option maxRecDepth 100000 in
theorem kx_take (l : Launch) (dC : Nat → ClassId) (dI : Nat → Nat → Nat) (a : Nat → Nat) (cI : ClassId) (np : Nat) (cc : Nat) (nt0 : Nat) (hd : Int32) (q0 : Nat → Int32) (q1 : Nat → Int32) (q2 : Nat → Int32) (q3 : Nat → Int32) (q4 : Nat → Int32) (V : Nat → Nat → Int32) (vh0 : Nat → Int32) (vh1 : Nat → Int32) (vh2 : Nat → Int32) (vh3 : Nat → Int32) (vh4 : Nat → Int32) (vh5 : Nat → Int32) (vh6 : Nat → Int32) (vh7 : Nat → Int32) (vh8 : Nat → Int32) (vf0 : Nat → Int32) (vf1 : Nat → Int32) (vf2 : Nat → Int32) (vf3 : Nat → Int32) (vf4 : Nat → Int32) (vf5 : Nat → Int32) (vf6 : Nat → Int32) (i : Nat) (L : List Nat) (K : Nat → Nat) (sz : Nat) (hn6 : np ≤ 6) (hF : ∀ k, k < 12 → a (11 + k) ∈ L ∧ K (a (11 + k)) = 3) (hi12 : i < 12) (hR : zz_RV a V vh0 vh1 vh2 vh3 vh4 vh5 vh6 vh7 vh8 vf0 vf1 vf2 vf3 vf4 vf5 vf6) (hnt : nt0 ≤ 400) (hri : 0 ≤ (vf3 i).toInt ∧ (vf3 i).toInt ≤ 400) : Met l yX5_take (zz_w yX5_take cX5_take 6 none) ({ frames := 1, cells := 0, slots := 0, locals := 22 }) (va_Pc [.ref (a 43), .int (nI i), .ref (a (11 + i))] (zz_B (dC, dI) sz (([(a 43, .inr (5, [.ref (a 44), .ref (a 45), .ref (a 46), .ref (a 47), .ref (a 48), .ref (a 49), .ref (a 50), .ref (a 51), .int (nI cc), .int (nI np), .int (nI nt0), .int hd])), (a 44, .inl (cI, 7, .inl q0)), (a 45, .inl (cI, 7, .inl q1)), (a 46, .inl (cI, 7, .inl q2)), (a 47, .inl (cI, 7, .inl q3)), (a 48, .inl (cI, 7, .inl q4))] : va_W) ++ va_pl L (zz_F K V)) [(cI, .int)])) (va_Qv (fun (u : (Nat → Int32) × (Nat → Int32) × (Nat → Int32) × (Nat → Int32) × (Nat → Int32)) => match u with | (o0, o1, o2, o3, o4) => ∃ (k : Nat) (ST : Int32), ST.toInt = (zz_stf nt0 vf3 i : Int) ∧ k ≤ np ∧ (∀ j : Nat, j < np + 1 → o0 j = zz_ins q0 k (nI i) j) ∧ (∀ j : Nat, j < np + 1 → o1 j = zz_ins q1 k ST j) ∧ (∀ j : Nat, j < np + 1 → o2 j = zz_ins q2 k (vf2 i) j) ∧ (∀ j : Nat, j < np + 1 → o3 j = zz_ins q3 k (vf3 i) j) ∧ (∀ j : Nat, j < np + 1 → o4 j = zz_ins q4 k (vf4 i) j) ∧ (k = 0 ∨ (q1 (k - 1)).toInt ≤ ST.toInt) ∧ ∀ j : Nat, k ≤ j → j < np → ST.toInt < (q1 j).toInt) (fun (u : (Nat → Int32) × (Nat → Int32) × (Nat → Int32) × (Nat → Int32) × (Nat → Int32)) (t : State) => match u with | (u0, u1, u2, u3, u4) => va_P (dC, dI) vwCl (([(a 43, .inr (5, [.ref (a 44), .ref (a 45), .ref (a 46), .ref (a 47), .ref (a 48), .ref (a 49), .ref (a 50), .ref (a 51), .int (nI cc), .int (nI (np + 1)), .int (nI nt0), .int hd])), (a 44, .inl (cI, 7, .inl u0)), (a 45, .inl (cI, 7, .inl u1)), (a 46, .inl (cI, 7, .inl u2)), (a 47, .inl (cI, 7, .inl u3)), (a 48, .inl (cI, 7, .inl u4))] : va_W) ++ va_pl L (zz_F K V)) t.heap ∧ va_K (dC, dI) vwCl [(cI, .int)] t ∧ va_D (va_A (([(a 43, .inr (5, [.ref (a 44), .ref (a 45), .ref (a 46), .ref (a 47), .ref (a 48), .ref (a 49), .ref (a 50), .ref (a 51), .int (nI cc), .int (nI np), .int (nI nt0), .int hd])), (a 44, .inl (cI, 7, .inl q0)), (a 45, .inl (cI, 7, .inl q1)), (a 46, .inl (cI, 7, .inl q2)), (a 47, .inl (cI, 7, .inl q3)), (a 48, .inl (cI, 7, .inl q4))] : va_W) ++ va_pl L (zz_F K V)) sz) (([(a 43, .inr (5, [.ref (a 44), .ref (a 45), .ref (a 46), .ref (a 47), .ref (a 48), .ref (a 49), .ref (a 50), .ref (a 51), .int (nI cc), .int (nI (np + 1)), .int (nI nt0), .int hd])), (a 44, .inl (cI, 7, .inl u0)), (a 45, .inl (cI, 7, .inl u1)), (a 46, .inl (cI, 7, .inl u2)), (a 47, .inl (cI, 7, .inl u3)), (a 48, .inl (cI, 7, .inl u4))] : va_W) ++ va_pl L (zz_F K V))) (va_A (([(a 43, .inr (5, [.ref (a 44), .ref (a 45), .ref (a 46), .ref (a 47), .ref (a 48), .ref (a 49), .ref (a 50), .ref (a 51), .int (nI cc), .int (nI np), .int (nI nt0), .int hd])), (a 44, .inl (cI, 7, .inl q0)), (a 45, .inl (cI, 7, .inl q1)), (a 46, .inl (cI, 7, .inl q2)), (a 47, .inl (cI, 7, .inl q3)), (a 48, .inl (cI, 7, .inl q4))] : va_W) ++ va_pl L (zz_F K V)) sz)) 0 0 (va_A (([(a 43, .inr (5, [.ref (a 44), .ref (a 45), .ref (a 46), .ref (a 47), .ref (a 48), .ref (a 49), .ref (a 50), .ref (a 51), .int (nI cc), .int (nI np), .int (nI nt0), .int hd])), (a 44, .inl (cI, 7, .inl q0)), (a 45, .inl (cI, 7, .inl q1)), (a 46, .inl (cI, 7, .inl q2)), (a 47, .inl (cI, 7, .inl q3)), (a 48, .inl (cI, 7, .inl q4))] : va_W) ++ va_pl L (zz_F K V)) sz) := by
  refine Met.ofW (cc := cX5_take) (maxL := 6) (ret := none) (by decide) rfl ?_
  intro p e s m args below meth c s₁ B hml hv
  obtain ⟨rfl, hsz, hP, hK, hD0, hN⟩ := hv
  have hx := B.exec
  have hb := B.bytes
  have hr := B.returns
  have hts := atoms_spec (ws := zz_w yX5_take cX5_take 6 none) B.pre
  have hw : ∀ w ∈ zz_all, w.before _ s = true := fun w h => hts w (List.mem_cons_of_mem _ h)
  have hown : s.vm.findClass RX5 = some m.cls := findClass_of_methodNamed B.named
  have hlocks := B.notSynchronized
  subst hsz
  have hD := hD0.self (sz := s.heap.size)
  generalize hAe : va_A (([(a 43, .inr (5, [.ref (a 44), .ref (a 45), .ref (a 46), .ref (a 47), .ref (a 48), .ref (a 49), .ref (a 50), .ref (a 51), .int (nI cc), .int (nI np), .int (nI nt0), .int hd])), (a 44, .inl (cI, 7, .inl q0)), (a 45, .inl (cI, 7, .inl q1)), (a 46, .inl (cI, 7, .inl q2)), (a 47, .inl (cI, 7, .inl q3)), (a 48, .inl (cI, 7, .inl q4))] : va_W) ++ va_pl L (zz_F K V)) s.heap.size = A at hD ⊢
  have hA : ∀ q : Nat, s.heap.size ≤ q → A q := fun q h => by rw [← hAe]; exact Or.inr h
  have hS : va_S A s.heap s.heap [] := va_S.rf
  have hP : va_P (dC, dI) vwCl (([(a 43, .inr (5, [.ref (a 44), .ref (a 45), .ref (a 46), .ref (a 47), .ref (a 48), .ref (a 49), .ref (a 50), .ref (a 51), .int (nI cc), .int (nI np), .int (nI nt0), .int hd])), (a 44, .inl (cI, 7, .inl q0)), (a 45, .inl (cI, 7, .inl q1)), (a 46, .inl (cI, 7, .inl q2)), (a 47, .inl (cI, 7, .inl q3)), (a 48, .inl (cI, 7, .inl q4))] : va_W) ++ va_pl L (zz_F K V)) s.heap := hP
  have hl := lv_entry ([.ref (a 43), .int (nI i), .ref (a (11 + i))]) (n := 6) (Nat.le_of_ble_eq_true rfl)
  rw [lg_entry_eq]
  generalize (lg_sl ([.ref (a 43), .int (nI i), .ref (a (11 + i))]) ++ List.replicate (6 - (lg_sl ([.ref (a 43), .int (nI i), .ref (a (11 + i))])).length) Slot.unset).toArray = ls at hl ⊢
  have hl : lv_has ls 6 [(0, .ref (a 43)), (1, .int (nI i)), (2, .ref (a (11 + i)))] := hl
  refine lv_aload_n hx hb dX5_take_0 rfl (lv_at hl 0 rfl) ?_
  refine va_get (D := (dC, dI)) (ci := 5) (v := .int (nI np)) (C := RX5) (T := TX5) (N := 12) hx hb hw zz_inX5 hown hK hP 0 rfl rfl 9 (by decide) (hw _ tw_142) (fun _ h9 => h9) rfl dX5_take_1 ?_
  refine lv_bipush (v := 7) hx hb dX5_take_4 (by decide) ?_
  refine lv_icmp_lt (tgt := 10) hx hb dX5_take_6 (by decide) (fun c_1 => ?_) (fun c_1 => ?_)
  · have zc_1 := c_1
    rw [Int32.lt_iff_toInt_lt] at zc_1
    try rw [zz_toInt np (by omega)] at zc_1
    try rw [show (7 : Int32).toInt = 7 from by decide] at zc_1
    refine lv_aload_n hx hb dX5_take_10 rfl (lv_at hl 0 rfl) ?_
    refine va_get (D := (dC, dI)) (ci := 5) (v := .int (nI nt0)) (C := RX5) (T := TX5) (N := 12) hx hb hw zz_inX5 hown hK hP 0 rfl rfl 10 (by decide) (hw _ tw_143) (fun _ h9 => h9) rfl dX5_take_11 ?_
    refine lv_aload_n hx hb dX5_take_14 rfl (lv_at hl 2 rfl) ?_
    obtain ⟨kq_2, hq_2⟩ := zz_pg3 (X := [(a 43, .inr (5, [.ref (a 44), .ref (a 45), .ref (a 46), .ref (a 47), .ref (a 48), .ref (a 49), .ref (a 50), .ref (a 51), .int (nI cc), .int (nI np), .int (nI nt0), .int hd])), (a 44, .inl (cI, 7, .inl q0)), (a 45, .inl (cI, 7, .inl q1)), (a 46, .inl (cI, 7, .inl q2)), (a 47, .inl (cI, 7, .inl q3)), (a 48, .inl (cI, 7, .inl q4))]) (V := V) (hF i hi12).1 (hF i hi12).2
    have hDo := hD
    refine va_getN (D := (dC, dI)) (ci := 3) (v := .int (V (a (11 + i)) 3)) (C := RX3) (T := TX3) (N := 7) hx hb hw zz_inX3 hown hK hP kq_2 hq_2 rfl 3 (by decide) (hN.use zz_n15) (fun _ h9 => h9) rfl dX5_take_15 ?_
    refine zz_seti (vf3 i) (zz_RVg3_3 hR hi12) ?_
    refine va_mmax hx hb (by rw [hml]; exact hl.1.symm) hown (hw _ tw_144) (hw _ tw_37) (hw _ tw_28) (hw _ tw_38) (Nat.le_of_ble_eq_true rfl) (Nat.le_of_ble_eq_true rfl) (Nat.le_of_ble_eq_true rfl) (Nat.le_of_ble_eq_true rfl) dX5_take_18 ?_
    refine lv_topi (fun ST eST => ?_)
    have zST : ST.toInt = (zz_stf nt0 vf3 i : Int) := by rw [eST]; exact zz_mxS hnt hri.1
    refine lv_istore_n (lv' := [(3, .int ST), (0, .ref (a 43)), (1, .int (nI i)), (2, .ref (a (11 + i)))]) hx hb dX5_take_21 rfl hl (by decide) rfl (fun ls hl => ?_)
    refine lv_aload_n hx hb dX5_take_22 rfl (lv_at hl 1 rfl) ?_
    refine va_get (D := (dC, dI)) (ci := 5) (v := .int (nI np)) (C := RX5) (T := TX5) (N := 12) hx hb hw zz_inX5 hown hK hP 0 rfl rfl 9 (by decide) (hw _ tw_142) (fun _ h9 => h9) rfl dX5_take_23 ?_
    refine lv_istore (lv' := [(4, .int (nI np)), (3, .int ST), (0, .ref (a 43)), (1, .int (nI i)), (2, .ref (a (11 + i)))]) hx hb dX5_take_26 hl (by decide) rfl (fun ls hl => ?_)
    refine lv_aload_n hx hb dX5_take_28 rfl (lv_at hl 2 rfl) ?_
    refine va_get (D := (dC, dI)) (ci := 5) (v := .int (nI np)) (C := RX5) (T := TX5) (N := 12) hx hb hw zz_inX5 hown hK hP 0 rfl rfl 9 (by decide) (hw _ tw_142) (fun _ h9 => h9) rfl dX5_take_29 ?_
    refine lv_istore (lv' := [(5, .int (nI np)), (4, .int (nI np)), (3, .int ST), (0, .ref (a 43)), (1, .int (nI i)), (2, .ref (a (11 + i)))]) hx hb dX5_take_32 hl (by decide) rfl (fun ls hl => ?_)
    refine zz_loopS (fun (u : (Nat) × (Nat → Int32) × (Nat → Int32) × (Nat → Int32) × (Nat → Int32) × (Nat → Int32)) => match u with | (k, g0, g1, g2, g3, g4) => (([(a 43, .inr (5, [.ref (a 44), .ref (a 45), .ref (a 46), .ref (a 47), .ref (a 48), .ref (a 49), .ref (a 50), .ref (a 51), .int (nI cc), .int (nI np), .int (nI nt0), .int hd])), (a 44, .inl (cI, 7, .inl g0)), (a 45, .inl (cI, 7, .inl g1)), (a 46, .inl (cI, 7, .inl g2)), (a 47, .inl (cI, 7, .inl g3)), (a 48, .inl (cI, 7, .inl g4))] : va_W) ++ va_pl L (zz_F K V))) (fun (u : (Nat) × (Nat → Int32) × (Nat → Int32) × (Nat → Int32) × (Nat → Int32) × (Nat → Int32)) => match u with | (k, g0, g1, g2, g3, g4) => [(0, .ref (a 43)), (1, .int (nI i)), (2, .ref (a (11 + i))), (3, .int ST), (4, .int (nI k)), (5, .int (nI k))]) (fun (u : (Nat) × (Nat → Int32) × (Nat → Int32) × (Nat → Int32) × (Nat → Int32) × (Nat → Int32)) => match u with | (k, g0, g1, g2, g3, g4) => k ≤ np ∧ zz_sh g0 q0 k np ∧ zz_sh g1 q1 k np ∧ zz_sh g2 q2 k np ∧ zz_sh g3 q3 k np ∧ zz_sh g4 q4 k np ∧ ∀ j : Nat, k ≤ j → j < np → ST.toInt < (q1 j).toInt) (fun (u : (Nat) × (Nat → Int32) × (Nat → Int32) × (Nat → Int32) × (Nat → Int32) × (Nat → Int32)) => match u with | (k, g0, g1, g2, g3, g4) => k) (fun u hI H locs ls hP hD hS hl ih_34 => ?_) (np, q0, q1, q2, q3, q4) ⟨by omega, zz_sh_0, zz_sh_0, zz_sh_0, zz_sh_0, zz_sh_0, fun j9 h8 h9 => absurd h9 (by omega)⟩ _ _ _ (hP.part (cx := [(a 43, .inr (5, [.ref (a 44), .ref (a 45), .ref (a 46), .ref (a 47), .ref (a 48), .ref (a 49), .ref (a 50), .ref (a 51), .int (nI cc), .int (nI np), .int (nI nt0), .int hd])), (a 44, .inl (cI, 7, .inl q0)), (a 45, .inl (cI, 7, .inl q1)), (a 46, .inl (cI, 7, .inl q2)), (a 47, .inl (cI, 7, .inl q3)), (a 48, .inl (cI, 7, .inl q4))]) [0, 1, 2, 3, 4, 5] rfl) (hD.part (cx := [(a 43, .inr (5, [.ref (a 44), .ref (a 45), .ref (a 46), .ref (a 47), .ref (a 48), .ref (a 49), .ref (a 50), .ref (a 51), .int (nI cc), .int (nI np), .int (nI nt0), .int hd])), (a 44, .inl (cI, 7, .inl q0)), (a 45, .inl (cI, 7, .inl q1)), (a 46, .inl (cI, 7, .inl q2)), (a 47, .inl (cI, 7, .inl q3)), (a 48, .inl (cI, 7, .inl q4))]) [0, 1, 2, 3, 4, 5] (by decide) rfl) hS (lv_sub hl [3, 4, 5, 2, 1, 0] rfl)
    obtain ⟨k, g0, g1, g2, g3, g4⟩ := u
    obtain ⟨hP, hD⟩ := zz_ty (D := (dC, dI)) (cl := vwCl) (A := A) (H := H) (([(a 43, .inr (5, [.ref (a 44), .ref (a 45), .ref (a 46), .ref (a 47), .ref (a 48), .ref (a 49), .ref (a 50), .ref (a 51), .int (nI cc), .int (nI np), .int (nI nt0), .int hd])), (a 44, .inl (cI, 7, .inl g0)), (a 45, .inl (cI, 7, .inl g1)), (a 46, .inl (cI, 7, .inl g2)), (a 47, .inl (cI, 7, .inl g3)), (a 48, .inl (cI, 7, .inl g4))] : va_W) ++ va_pl L (zz_F K V)) hP hD rfl
    have hl : lv_has ls 6 [(0, .ref (a 43)), (1, .int (nI i)), (2, .ref (a (11 + i))), (3, .int ST), (4, .int (nI k)), (5, .int (nI k))] := hl
    have hI : k ≤ np ∧ zz_sh g0 q0 k np ∧ zz_sh g1 q1 k np ∧ zz_sh g2 q2 k np ∧ zz_sh g3 q3 k np ∧ zz_sh g4 q4 k np ∧ ∀ j : Nat, k ≤ j → j < np → ST.toInt < (q1 j).toInt := hI
    obtain ⟨ik, is0, is1, is2, is3, is4, iST⟩ := hI
    refine lv_iload hx hb dX5_take_34 (lv_at hl 5 rfl) ?_
    refine lv_if_le (tgt := 74) hx hb dX5_take_36 (by decide) (fun c_3 => ?_) (fun c_3 => ?_)
    · have zc_3 := c_3
      rw [Int32.le_iff_toInt_le] at zc_3
      try rw [zz_toInt k (by omega)] at zc_3
      try rw [show (0 : Int32).toInt = 0 from by decide] at zc_3
      refine lv_aload_n hx hb dX5_take_74 rfl (lv_at hl 0 rfl) ?_
      refine va_get (D := (dC, dI)) (ci := 5) (v := .ref (a 44)) (C := RX5) (T := TX5) (N := 12) hx hb hw zz_inX5 hown hK hP 0 rfl rfl 0 (by decide) (hw _ tw_146) (fun _ h9 => h9) rfl dX5_take_75 ?_
      refine lv_iload hx hb dX5_take_78 (lv_at hl 4 rfl) ?_
      refine lv_iload_n hx hb dX5_take_80 rfl (lv_at hl 1 rfl) ?_
      refine va_iast hx hb hK hP hD hS 1 0 rfl rfl (vp_in_iff.mpr (by rw [zz_toInt k (by omega)]; constructor <;> omega)) dX5_take_81 (fun H locs hP hD hS => ?_)
      obtain ⟨hP, hD⟩ := zz_ty (D := (dC, dI)) (cl := vwCl) (A := A) (H := H) (([(a 43, .inr (5, [.ref (a 44), .ref (a 45), .ref (a 46), .ref (a 47), .ref (a 48), .ref (a 49), .ref (a 50), .ref (a 51), .int (nI cc), .int (nI np), .int (nI nt0), .int hd])), (a 44, .inl (cI, 7, .inl (upd g0 (Int32.toNatClampNeg (nI k)) (nI i)))), (a 45, .inl (cI, 7, .inl g1)), (a 46, .inl (cI, 7, .inl g2)), (a 47, .inl (cI, 7, .inl g3)), (a 48, .inl (cI, 7, .inl g4))] : va_W) ++ va_pl L (zz_F K V)) hP hD rfl
      refine lv_aload_n hx hb dX5_take_82 rfl (lv_at hl 0 rfl) ?_
      refine va_get (D := (dC, dI)) (ci := 5) (v := .ref (a 45)) (C := RX5) (T := TX5) (N := 12) hx hb hw zz_inX5 hown hK hP 0 rfl rfl 1 (by decide) (hw _ tw_147) (fun _ h9 => h9) rfl dX5_take_83 ?_
      refine lv_iload hx hb dX5_take_86 (lv_at hl 4 rfl) ?_
      refine lv_iload_n hx hb dX5_take_88 rfl (lv_at hl 3 rfl) ?_
      refine va_iast hx hb hK hP hD hS 2 0 rfl rfl (vp_in_iff.mpr (by rw [zz_toInt k (by omega)]; constructor <;> omega)) dX5_take_89 (fun H locs hP hD hS => ?_)
      obtain ⟨hP, hD⟩ := zz_ty (D := (dC, dI)) (cl := vwCl) (A := A) (H := H) (([(a 43, .inr (5, [.ref (a 44), .ref (a 45), .ref (a 46), .ref (a 47), .ref (a 48), .ref (a 49), .ref (a 50), .ref (a 51), .int (nI cc), .int (nI np), .int (nI nt0), .int hd])), (a 44, .inl (cI, 7, .inl (upd g0 (Int32.toNatClampNeg (nI k)) (nI i)))), (a 45, .inl (cI, 7, .inl (upd g1 (Int32.toNatClampNeg (nI k)) ST))), (a 46, .inl (cI, 7, .inl g2)), (a 47, .inl (cI, 7, .inl g3)), (a 48, .inl (cI, 7, .inl g4))] : va_W) ++ va_pl L (zz_F K V)) hP hD rfl
      refine lv_aload_n hx hb dX5_take_90 rfl (lv_at hl 0 rfl) ?_
      refine va_get (D := (dC, dI)) (ci := 5) (v := .ref (a 46)) (C := RX5) (T := TX5) (N := 12) hx hb hw zz_inX5 hown hK hP 0 rfl rfl 2 (by decide) (hw _ tw_148) (fun _ h9 => h9) rfl dX5_take_91 ?_
      refine lv_iload hx hb dX5_take_94 (lv_at hl 4 rfl) ?_
      refine lv_aload_n hx hb dX5_take_96 rfl (lv_at hl 2 rfl) ?_
      obtain ⟨kq_4, hq_4⟩ := zz_pg3 (X := [(a 43, .inr (5, [.ref (a 44), .ref (a 45), .ref (a 46), .ref (a 47), .ref (a 48), .ref (a 49), .ref (a 50), .ref (a 51), .int (nI cc), .int (nI np), .int (nI nt0), .int hd])), (a 44, .inl (cI, 7, .inl (upd g0 (Int32.toNatClampNeg (nI k)) (nI i)))), (a 45, .inl (cI, 7, .inl (upd g1 (Int32.toNatClampNeg (nI k)) ST))), (a 46, .inl (cI, 7, .inl g2)), (a 47, .inl (cI, 7, .inl g3)), (a 48, .inl (cI, 7, .inl g4))]) (V := V) (hF i hi12).1 (hF i hi12).2
      have hDo := hD
      refine va_getN (D := (dC, dI)) (ci := 3) (v := .int (V (a (11 + i)) 2)) (C := RX3) (T := TX3) (N := 7) hx hb hw zz_inX3 hown hK hP kq_4 hq_4 rfl 2 (by decide) (hN.use zz_n14) (fun _ h9 => h9) rfl dX5_take_97 ?_
      refine zz_seti (vf2 i) (zz_RVg3_2 hR hi12) ?_
      refine va_iast hx hb hK hP hD hS 3 0 rfl rfl (vp_in_iff.mpr (by rw [zz_toInt k (by omega)]; constructor <;> omega)) dX5_take_100 (fun H locs hP hD hS => ?_)
      obtain ⟨hP, hD⟩ := zz_ty (D := (dC, dI)) (cl := vwCl) (A := A) (H := H) (([(a 43, .inr (5, [.ref (a 44), .ref (a 45), .ref (a 46), .ref (a 47), .ref (a 48), .ref (a 49), .ref (a 50), .ref (a 51), .int (nI cc), .int (nI np), .int (nI nt0), .int hd])), (a 44, .inl (cI, 7, .inl (upd g0 (Int32.toNatClampNeg (nI k)) (nI i)))), (a 45, .inl (cI, 7, .inl (upd g1 (Int32.toNatClampNeg (nI k)) ST))), (a 46, .inl (cI, 7, .inl (upd g2 (Int32.toNatClampNeg (nI k)) (vf2 i)))), (a 47, .inl (cI, 7, .inl g3)), (a 48, .inl (cI, 7, .inl g4))] : va_W) ++ va_pl L (zz_F K V)) hP hD rfl
      refine lv_aload_n hx hb dX5_take_101 rfl (lv_at hl 0 rfl) ?_
      refine va_get (D := (dC, dI)) (ci := 5) (v := .ref (a 47)) (C := RX5) (T := TX5) (N := 12) hx hb hw zz_inX5 hown hK hP 0 rfl rfl 3 (by decide) (hw _ tw_149) (fun _ h9 => h9) rfl dX5_take_102 ?_
      refine lv_iload hx hb dX5_take_105 (lv_at hl 4 rfl) ?_
      refine lv_aload_n hx hb dX5_take_107 rfl (lv_at hl 2 rfl) ?_
      obtain ⟨kq_5, hq_5⟩ := zz_pg3 (X := [(a 43, .inr (5, [.ref (a 44), .ref (a 45), .ref (a 46), .ref (a 47), .ref (a 48), .ref (a 49), .ref (a 50), .ref (a 51), .int (nI cc), .int (nI np), .int (nI nt0), .int hd])), (a 44, .inl (cI, 7, .inl (upd g0 (Int32.toNatClampNeg (nI k)) (nI i)))), (a 45, .inl (cI, 7, .inl (upd g1 (Int32.toNatClampNeg (nI k)) ST))), (a 46, .inl (cI, 7, .inl (upd g2 (Int32.toNatClampNeg (nI k)) (vf2 i)))), (a 47, .inl (cI, 7, .inl g3)), (a 48, .inl (cI, 7, .inl g4))]) (V := V) (hF i hi12).1 (hF i hi12).2
      have hDo := hD
      refine va_getN (D := (dC, dI)) (ci := 3) (v := .int (V (a (11 + i)) 3)) (C := RX3) (T := TX3) (N := 7) hx hb hw zz_inX3 hown hK hP kq_5 hq_5 rfl 3 (by decide) (hN.use zz_n15) (fun _ h9 => h9) rfl dX5_take_108 ?_
      refine zz_seti (vf3 i) (zz_RVg3_3 hR hi12) ?_
      refine va_iast hx hb hK hP hD hS 4 0 rfl rfl (vp_in_iff.mpr (by rw [zz_toInt k (by omega)]; constructor <;> omega)) dX5_take_111 (fun H locs hP hD hS => ?_)
      obtain ⟨hP, hD⟩ := zz_ty (D := (dC, dI)) (cl := vwCl) (A := A) (H := H) (([(a 43, .inr (5, [.ref (a 44), .ref (a 45), .ref (a 46), .ref (a 47), .ref (a 48), .ref (a 49), .ref (a 50), .ref (a 51), .int (nI cc), .int (nI np), .int (nI nt0), .int hd])), (a 44, .inl (cI, 7, .inl (upd g0 (Int32.toNatClampNeg (nI k)) (nI i)))), (a 45, .inl (cI, 7, .inl (upd g1 (Int32.toNatClampNeg (nI k)) ST))), (a 46, .inl (cI, 7, .inl (upd g2 (Int32.toNatClampNeg (nI k)) (vf2 i)))), (a 47, .inl (cI, 7, .inl (upd g3 (Int32.toNatClampNeg (nI k)) (vf3 i)))), (a 48, .inl (cI, 7, .inl g4))] : va_W) ++ va_pl L (zz_F K V)) hP hD rfl
      refine lv_aload_n hx hb dX5_take_112 rfl (lv_at hl 0 rfl) ?_
      refine va_get (D := (dC, dI)) (ci := 5) (v := .ref (a 48)) (C := RX5) (T := TX5) (N := 12) hx hb hw zz_inX5 hown hK hP 0 rfl rfl 4 (by decide) (hw _ tw_150) (fun _ h9 => h9) rfl dX5_take_113 ?_
      refine lv_iload hx hb dX5_take_116 (lv_at hl 4 rfl) ?_
      refine lv_aload_n hx hb dX5_take_118 rfl (lv_at hl 2 rfl) ?_
      obtain ⟨kq_6, hq_6⟩ := zz_pg3 (X := [(a 43, .inr (5, [.ref (a 44), .ref (a 45), .ref (a 46), .ref (a 47), .ref (a 48), .ref (a 49), .ref (a 50), .ref (a 51), .int (nI cc), .int (nI np), .int (nI nt0), .int hd])), (a 44, .inl (cI, 7, .inl (upd g0 (Int32.toNatClampNeg (nI k)) (nI i)))), (a 45, .inl (cI, 7, .inl (upd g1 (Int32.toNatClampNeg (nI k)) ST))), (a 46, .inl (cI, 7, .inl (upd g2 (Int32.toNatClampNeg (nI k)) (vf2 i)))), (a 47, .inl (cI, 7, .inl (upd g3 (Int32.toNatClampNeg (nI k)) (vf3 i)))), (a 48, .inl (cI, 7, .inl g4))]) (V := V) (hF i hi12).1 (hF i hi12).2
      have hDo := hD
      refine va_getN (D := (dC, dI)) (ci := 3) (v := .int (V (a (11 + i)) 4)) (C := RX3) (T := TX3) (N := 7) hx hb hw zz_inX3 hown hK hP kq_6 hq_6 rfl 4 (by decide) (hN.use zz_n18) (fun _ h9 => h9) rfl dX5_take_119 ?_
      refine zz_seti (vf4 i) (zz_RVg3_4 hR hi12) ?_
      refine va_iast hx hb hK hP hD hS 5 0 rfl rfl (vp_in_iff.mpr (by rw [zz_toInt k (by omega)]; constructor <;> omega)) dX5_take_122 (fun H locs hP hD hS => ?_)
      obtain ⟨hP, hD⟩ := zz_ty (D := (dC, dI)) (cl := vwCl) (A := A) (H := H) (([(a 43, .inr (5, [.ref (a 44), .ref (a 45), .ref (a 46), .ref (a 47), .ref (a 48), .ref (a 49), .ref (a 50), .ref (a 51), .int (nI cc), .int (nI np), .int (nI nt0), .int hd])), (a 44, .inl (cI, 7, .inl (upd g0 (Int32.toNatClampNeg (nI k)) (nI i)))), (a 45, .inl (cI, 7, .inl (upd g1 (Int32.toNatClampNeg (nI k)) ST))), (a 46, .inl (cI, 7, .inl (upd g2 (Int32.toNatClampNeg (nI k)) (vf2 i)))), (a 47, .inl (cI, 7, .inl (upd g3 (Int32.toNatClampNeg (nI k)) (vf3 i)))), (a 48, .inl (cI, 7, .inl (upd g4 (Int32.toNatClampNeg (nI k)) (vf4 i))))] : va_W) ++ va_pl L (zz_F K V)) hP hD rfl
      refine lv_aload_n hx hb dX5_take_123 rfl (lv_at hl 0 rfl) ?_
      refine lv_dup hx hb dX5_take_124 rfl ?_
      refine va_get (D := (dC, dI)) (ci := 5) (v := .int (nI np)) (C := RX5) (T := TX5) (N := 12) hx hb hw zz_inX5 hown hK hP 0 rfl rfl 9 (by decide) (hw _ tw_142) (fun _ h9 => h9) rfl dX5_take_125 ?_
      refine lv_iconst (v := 1) hx hb dX5_take_128 (by decide) ?_
      refine lv_iadd hx hb dX5_take_129 ?_
      refine zz_seti (nI (np + 1)) (nI_1 _) ?_
      refine va_put (D := (dC, dI)) (ci := 5) (v := .int (nI (np + 1))) (ty := .int) (C := RX5) (T := TX5) (N := 12) hx hb hw zz_inX5 tyX5 tyX5_ok nmX5 hown hK hP hD hS 0 rfl rfl 9 (by decide) (hw _ tw_142) (fun _ h9 => h9) rfl (by decide +kernel) rfl rfl (Nat.le_of_ble_eq_true rfl) dX5_take_130 (fun H locs hP hD hS => ?_)
      obtain ⟨hP, hD⟩ := zz_ty (D := (dC, dI)) (cl := vwCl) (A := A) (H := H) (([(a 43, .inr (5, [.ref (a 44), .ref (a 45), .ref (a 46), .ref (a 47), .ref (a 48), .ref (a 49), .ref (a 50), .ref (a 51), .int (nI cc), .int (nI (np + 1)), .int (nI nt0), .int hd])), (a 44, .inl (cI, 7, .inl (upd g0 (Int32.toNatClampNeg (nI k)) (nI i)))), (a 45, .inl (cI, 7, .inl (upd g1 (Int32.toNatClampNeg (nI k)) ST))), (a 46, .inl (cI, 7, .inl (upd g2 (Int32.toNatClampNeg (nI k)) (vf2 i)))), (a 47, .inl (cI, 7, .inl (upd g3 (Int32.toNatClampNeg (nI k)) (vf3 i)))), (a 48, .inl (cI, 7, .inl (upd g4 (Int32.toNatClampNeg (nI k)) (vf4 i))))] : va_W) ++ va_pl L (zz_F K V)) hP hD rfl
      obtain ⟨hP9, hD9⟩ := zz_part2 (cx := [(a 43, .inr (5, [.ref (a 44), .ref (a 45), .ref (a 46), .ref (a 47), .ref (a 48), .ref (a 49), .ref (a 50), .ref (a 51), .int (nI cc), .int (nI (np + 1)), .int (nI nt0), .int hd])), (a 44, .inl (cI, 7, .inl (upd g0 (Int32.toNatClampNeg (nI k)) (nI i)))), (a 45, .inl (cI, 7, .inl (upd g1 (Int32.toNatClampNeg (nI k)) ST))), (a 46, .inl (cI, 7, .inl (upd g2 (Int32.toNatClampNeg (nI k)) (vf2 i)))), (a 47, .inl (cI, 7, .inl (upd g3 (Int32.toNatClampNeg (nI k)) (vf3 i)))), (a 48, .inl (cI, 7, .inl (upd g4 (Int32.toNatClampNeg (nI k)) (vf4 i))))]) hP hD [0, 1, 2, 3, 4, 5] (by decide) rfl
      have hK9 := hK.sub (tys' := [(cI, .int)]) [0] rfl
      exact W.vret hx hb hr (fun t ht hW => ⟨⟨((upd g0 (Int32.toNatClampNeg (nI k)) (nI i)), (upd g1 (Int32.toNatClampNeg (nI k)) ST), (upd g2 (Int32.toNatClampNeg (nI k)) (vf2 i)), (upd g3 (Int32.toNatClampNeg (nI k)) (vf3 i)), (upd g4 (Int32.toNatClampNeg (nI k)) (vf4 i))), rfl, ⟨k, ST, zST, by omega, zz_sh_e is0 (by omega), zz_sh_e is1 (by omega), zz_sh_e is2 (by omega), zz_sh_e is3 (by omega), zz_sh_e is4 (by omega), (by first | exact Or.inl (by omega) | exact Or.inr (by rw [← is1.1 (k - 1) (by omega)]; omega)), iST⟩, by rw [ht]; exact hP9, va_K.moved hW.alike hK9, hD9⟩, hS.F ht⟩) hS.2.2 dX5_take_133
    · have zc_3 := c_3
      rw [Int32.le_iff_toInt_le] at zc_3
      try rw [zz_toInt k (by omega)] at zc_3
      try rw [show (0 : Int32).toInt = 0 from by decide] at zc_3
      refine lv_aload_n hx hb dX5_take_39 rfl (lv_at hl 0 rfl) ?_
      refine va_get (D := (dC, dI)) (ci := 5) (v := .ref (a 45)) (C := RX5) (T := TX5) (N := 12) hx hb hw zz_inX5 hown hK hP 0 rfl rfl 1 (by decide) (hw _ tw_147) (fun _ h9 => h9) rfl dX5_take_40 ?_
      refine lv_iload hx hb dX5_take_43 (lv_at hl 5 rfl) ?_
      refine lv_iconst (v := 1) hx hb dX5_take_45 (by decide) ?_
      refine lv_isub hx hb dX5_take_46 ?_
      refine zz_seti (nI (k - 1)) (zz_predN (by omega)) ?_
      refine va_iald hx hb hK hP 2 0 rfl rfl (vp_in_iff.mpr (by rw [zz_toInt (k - 1) (by omega)]; constructor <;> omega)) dX5_take_47 ?_
      refine zz_seti (g1 (k - 1)) (congrArg g1 (zz_cl (by omega))) ?_
      refine lv_iload_n hx hb dX5_take_48 rfl (lv_at hl 3 rfl) ?_
      refine lv_icmp_le (tgt := 74) hx hb dX5_take_49 (by decide) (fun c_7 => ?_) (fun c_7 => ?_)
      · have zc_7 := c_7
        rw [Int32.le_iff_toInt_le] at zc_7
        refine lv_aload_n hx hb dX5_take_74 rfl (lv_at hl 0 rfl) ?_
        refine va_get (D := (dC, dI)) (ci := 5) (v := .ref (a 44)) (C := RX5) (T := TX5) (N := 12) hx hb hw zz_inX5 hown hK hP 0 rfl rfl 0 (by decide) (hw _ tw_146) (fun _ h9 => h9) rfl dX5_take_75 ?_
        refine lv_iload hx hb dX5_take_78 (lv_at hl 4 rfl) ?_
        refine lv_iload_n hx hb dX5_take_80 rfl (lv_at hl 1 rfl) ?_
        refine va_iast hx hb hK hP hD hS 1 0 rfl rfl (vp_in_iff.mpr (by rw [zz_toInt k (by omega)]; constructor <;> omega)) dX5_take_81 (fun H locs hP hD hS => ?_)
        obtain ⟨hP, hD⟩ := zz_ty (D := (dC, dI)) (cl := vwCl) (A := A) (H := H) (([(a 43, .inr (5, [.ref (a 44), .ref (a 45), .ref (a 46), .ref (a 47), .ref (a 48), .ref (a 49), .ref (a 50), .ref (a 51), .int (nI cc), .int (nI np), .int (nI nt0), .int hd])), (a 44, .inl (cI, 7, .inl (upd g0 (Int32.toNatClampNeg (nI k)) (nI i)))), (a 45, .inl (cI, 7, .inl g1)), (a 46, .inl (cI, 7, .inl g2)), (a 47, .inl (cI, 7, .inl g3)), (a 48, .inl (cI, 7, .inl g4))] : va_W) ++ va_pl L (zz_F K V)) hP hD rfl
        refine lv_aload_n hx hb dX5_take_82 rfl (lv_at hl 0 rfl) ?_
        refine va_get (D := (dC, dI)) (ci := 5) (v := .ref (a 45)) (C := RX5) (T := TX5) (N := 12) hx hb hw zz_inX5 hown hK hP 0 rfl rfl 1 (by decide) (hw _ tw_147) (fun _ h9 => h9) rfl dX5_take_83 ?_
        refine lv_iload hx hb dX5_take_86 (lv_at hl 4 rfl) ?_
        refine lv_iload_n hx hb dX5_take_88 rfl (lv_at hl 3 rfl) ?_
        refine va_iast hx hb hK hP hD hS 2 0 rfl rfl (vp_in_iff.mpr (by rw [zz_toInt k (by omega)]; constructor <;> omega)) dX5_take_89 (fun H locs hP hD hS => ?_)
        obtain ⟨hP, hD⟩ := zz_ty (D := (dC, dI)) (cl := vwCl) (A := A) (H := H) (([(a 43, .inr (5, [.ref (a 44), .ref (a 45), .ref (a 46), .ref (a 47), .ref (a 48), .ref (a 49), .ref (a 50), .ref (a 51), .int (nI cc), .int (nI np), .int (nI nt0), .int hd])), (a 44, .inl (cI, 7, .inl (upd g0 (Int32.toNatClampNeg (nI k)) (nI i)))), (a 45, .inl (cI, 7, .inl (upd g1 (Int32.toNatClampNeg (nI k)) ST))), (a 46, .inl (cI, 7, .inl g2)), (a 47, .inl (cI, 7, .inl g3)), (a 48, .inl (cI, 7, .inl g4))] : va_W) ++ va_pl L (zz_F K V)) hP hD rfl
        refine lv_aload_n hx hb dX5_take_90 rfl (lv_at hl 0 rfl) ?_
        refine va_get (D := (dC, dI)) (ci := 5) (v := .ref (a 46)) (C := RX5) (T := TX5) (N := 12) hx hb hw zz_inX5 hown hK hP 0 rfl rfl 2 (by decide) (hw _ tw_148) (fun _ h9 => h9) rfl dX5_take_91 ?_
        refine lv_iload hx hb dX5_take_94 (lv_at hl 4 rfl) ?_
        refine lv_aload_n hx hb dX5_take_96 rfl (lv_at hl 2 rfl) ?_
        obtain ⟨kq_8, hq_8⟩ := zz_pg3 (X := [(a 43, .inr (5, [.ref (a 44), .ref (a 45), .ref (a 46), .ref (a 47), .ref (a 48), .ref (a 49), .ref (a 50), .ref (a 51), .int (nI cc), .int (nI np), .int (nI nt0), .int hd])), (a 44, .inl (cI, 7, .inl (upd g0 (Int32.toNatClampNeg (nI k)) (nI i)))), (a 45, .inl (cI, 7, .inl (upd g1 (Int32.toNatClampNeg (nI k)) ST))), (a 46, .inl (cI, 7, .inl g2)), (a 47, .inl (cI, 7, .inl g3)), (a 48, .inl (cI, 7, .inl g4))]) (V := V) (hF i hi12).1 (hF i hi12).2
        have hDo := hD
        refine va_getN (D := (dC, dI)) (ci := 3) (v := .int (V (a (11 + i)) 2)) (C := RX3) (T := TX3) (N := 7) hx hb hw zz_inX3 hown hK hP kq_8 hq_8 rfl 2 (by decide) (hN.use zz_n14) (fun _ h9 => h9) rfl dX5_take_97 ?_
        refine zz_seti (vf2 i) (zz_RVg3_2 hR hi12) ?_
        refine va_iast hx hb hK hP hD hS 3 0 rfl rfl (vp_in_iff.mpr (by rw [zz_toInt k (by omega)]; constructor <;> omega)) dX5_take_100 (fun H locs hP hD hS => ?_)
        obtain ⟨hP, hD⟩ := zz_ty (D := (dC, dI)) (cl := vwCl) (A := A) (H := H) (([(a 43, .inr (5, [.ref (a 44), .ref (a 45), .ref (a 46), .ref (a 47), .ref (a 48), .ref (a 49), .ref (a 50), .ref (a 51), .int (nI cc), .int (nI np), .int (nI nt0), .int hd])), (a 44, .inl (cI, 7, .inl (upd g0 (Int32.toNatClampNeg (nI k)) (nI i)))), (a 45, .inl (cI, 7, .inl (upd g1 (Int32.toNatClampNeg (nI k)) ST))), (a 46, .inl (cI, 7, .inl (upd g2 (Int32.toNatClampNeg (nI k)) (vf2 i)))), (a 47, .inl (cI, 7, .inl g3)), (a 48, .inl (cI, 7, .inl g4))] : va_W) ++ va_pl L (zz_F K V)) hP hD rfl
        refine lv_aload_n hx hb dX5_take_101 rfl (lv_at hl 0 rfl) ?_
        refine va_get (D := (dC, dI)) (ci := 5) (v := .ref (a 47)) (C := RX5) (T := TX5) (N := 12) hx hb hw zz_inX5 hown hK hP 0 rfl rfl 3 (by decide) (hw _ tw_149) (fun _ h9 => h9) rfl dX5_take_102 ?_
        refine lv_iload hx hb dX5_take_105 (lv_at hl 4 rfl) ?_
        refine lv_aload_n hx hb dX5_take_107 rfl (lv_at hl 2 rfl) ?_
        obtain ⟨kq_9, hq_9⟩ := zz_pg3 (X := [(a 43, .inr (5, [.ref (a 44), .ref (a 45), .ref (a 46), .ref (a 47), .ref (a 48), .ref (a 49), .ref (a 50), .ref (a 51), .int (nI cc), .int (nI np), .int (nI nt0), .int hd])), (a 44, .inl (cI, 7, .inl (upd g0 (Int32.toNatClampNeg (nI k)) (nI i)))), (a 45, .inl (cI, 7, .inl (upd g1 (Int32.toNatClampNeg (nI k)) ST))), (a 46, .inl (cI, 7, .inl (upd g2 (Int32.toNatClampNeg (nI k)) (vf2 i)))), (a 47, .inl (cI, 7, .inl g3)), (a 48, .inl (cI, 7, .inl g4))]) (V := V) (hF i hi12).1 (hF i hi12).2
        have hDo := hD
        refine va_getN (D := (dC, dI)) (ci := 3) (v := .int (V (a (11 + i)) 3)) (C := RX3) (T := TX3) (N := 7) hx hb hw zz_inX3 hown hK hP kq_9 hq_9 rfl 3 (by decide) (hN.use zz_n15) (fun _ h9 => h9) rfl dX5_take_108 ?_
        refine zz_seti (vf3 i) (zz_RVg3_3 hR hi12) ?_
        refine va_iast hx hb hK hP hD hS 4 0 rfl rfl (vp_in_iff.mpr (by rw [zz_toInt k (by omega)]; constructor <;> omega)) dX5_take_111 (fun H locs hP hD hS => ?_)
        obtain ⟨hP, hD⟩ := zz_ty (D := (dC, dI)) (cl := vwCl) (A := A) (H := H) (([(a 43, .inr (5, [.ref (a 44), .ref (a 45), .ref (a 46), .ref (a 47), .ref (a 48), .ref (a 49), .ref (a 50), .ref (a 51), .int (nI cc), .int (nI np), .int (nI nt0), .int hd])), (a 44, .inl (cI, 7, .inl (upd g0 (Int32.toNatClampNeg (nI k)) (nI i)))), (a 45, .inl (cI, 7, .inl (upd g1 (Int32.toNatClampNeg (nI k)) ST))), (a 46, .inl (cI, 7, .inl (upd g2 (Int32.toNatClampNeg (nI k)) (vf2 i)))), (a 47, .inl (cI, 7, .inl (upd g3 (Int32.toNatClampNeg (nI k)) (vf3 i)))), (a 48, .inl (cI, 7, .inl g4))] : va_W) ++ va_pl L (zz_F K V)) hP hD rfl
        refine lv_aload_n hx hb dX5_take_112 rfl (lv_at hl 0 rfl) ?_
        refine va_get (D := (dC, dI)) (ci := 5) (v := .ref (a 48)) (C := RX5) (T := TX5) (N := 12) hx hb hw zz_inX5 hown hK hP 0 rfl rfl 4 (by decide) (hw _ tw_150) (fun _ h9 => h9) rfl dX5_take_113 ?_
        refine lv_iload hx hb dX5_take_116 (lv_at hl 4 rfl) ?_
        refine lv_aload_n hx hb dX5_take_118 rfl (lv_at hl 2 rfl) ?_
        obtain ⟨kq_10, hq_10⟩ := zz_pg3 (X := [(a 43, .inr (5, [.ref (a 44), .ref (a 45), .ref (a 46), .ref (a 47), .ref (a 48), .ref (a 49), .ref (a 50), .ref (a 51), .int (nI cc), .int (nI np), .int (nI nt0), .int hd])), (a 44, .inl (cI, 7, .inl (upd g0 (Int32.toNatClampNeg (nI k)) (nI i)))), (a 45, .inl (cI, 7, .inl (upd g1 (Int32.toNatClampNeg (nI k)) ST))), (a 46, .inl (cI, 7, .inl (upd g2 (Int32.toNatClampNeg (nI k)) (vf2 i)))), (a 47, .inl (cI, 7, .inl (upd g3 (Int32.toNatClampNeg (nI k)) (vf3 i)))), (a 48, .inl (cI, 7, .inl g4))]) (V := V) (hF i hi12).1 (hF i hi12).2
        have hDo := hD
        refine va_getN (D := (dC, dI)) (ci := 3) (v := .int (V (a (11 + i)) 4)) (C := RX3) (T := TX3) (N := 7) hx hb hw zz_inX3 hown hK hP kq_10 hq_10 rfl 4 (by decide) (hN.use zz_n18) (fun _ h9 => h9) rfl dX5_take_119 ?_
        refine zz_seti (vf4 i) (zz_RVg3_4 hR hi12) ?_
        refine va_iast hx hb hK hP hD hS 5 0 rfl rfl (vp_in_iff.mpr (by rw [zz_toInt k (by omega)]; constructor <;> omega)) dX5_take_122 (fun H locs hP hD hS => ?_)
        obtain ⟨hP, hD⟩ := zz_ty (D := (dC, dI)) (cl := vwCl) (A := A) (H := H) (([(a 43, .inr (5, [.ref (a 44), .ref (a 45), .ref (a 46), .ref (a 47), .ref (a 48), .ref (a 49), .ref (a 50), .ref (a 51), .int (nI cc), .int (nI np), .int (nI nt0), .int hd])), (a 44, .inl (cI, 7, .inl (upd g0 (Int32.toNatClampNeg (nI k)) (nI i)))), (a 45, .inl (cI, 7, .inl (upd g1 (Int32.toNatClampNeg (nI k)) ST))), (a 46, .inl (cI, 7, .inl (upd g2 (Int32.toNatClampNeg (nI k)) (vf2 i)))), (a 47, .inl (cI, 7, .inl (upd g3 (Int32.toNatClampNeg (nI k)) (vf3 i)))), (a 48, .inl (cI, 7, .inl (upd g4 (Int32.toNatClampNeg (nI k)) (vf4 i))))] : va_W) ++ va_pl L (zz_F K V)) hP hD rfl
        refine lv_aload_n hx hb dX5_take_123 rfl (lv_at hl 0 rfl) ?_
        refine lv_dup hx hb dX5_take_124 rfl ?_
        refine va_get (D := (dC, dI)) (ci := 5) (v := .int (nI np)) (C := RX5) (T := TX5) (N := 12) hx hb hw zz_inX5 hown hK hP 0 rfl rfl 9 (by decide) (hw _ tw_142) (fun _ h9 => h9) rfl dX5_take_125 ?_
        refine lv_iconst (v := 1) hx hb dX5_take_128 (by decide) ?_
        refine lv_iadd hx hb dX5_take_129 ?_
        refine zz_seti (nI (np + 1)) (nI_1 _) ?_
        refine va_put (D := (dC, dI)) (ci := 5) (v := .int (nI (np + 1))) (ty := .int) (C := RX5) (T := TX5) (N := 12) hx hb hw zz_inX5 tyX5 tyX5_ok nmX5 hown hK hP hD hS 0 rfl rfl 9 (by decide) (hw _ tw_142) (fun _ h9 => h9) rfl (by decide +kernel) rfl rfl (Nat.le_of_ble_eq_true rfl) dX5_take_130 (fun H locs hP hD hS => ?_)
        obtain ⟨hP, hD⟩ := zz_ty (D := (dC, dI)) (cl := vwCl) (A := A) (H := H) (([(a 43, .inr (5, [.ref (a 44), .ref (a 45), .ref (a 46), .ref (a 47), .ref (a 48), .ref (a 49), .ref (a 50), .ref (a 51), .int (nI cc), .int (nI (np + 1)), .int (nI nt0), .int hd])), (a 44, .inl (cI, 7, .inl (upd g0 (Int32.toNatClampNeg (nI k)) (nI i)))), (a 45, .inl (cI, 7, .inl (upd g1 (Int32.toNatClampNeg (nI k)) ST))), (a 46, .inl (cI, 7, .inl (upd g2 (Int32.toNatClampNeg (nI k)) (vf2 i)))), (a 47, .inl (cI, 7, .inl (upd g3 (Int32.toNatClampNeg (nI k)) (vf3 i)))), (a 48, .inl (cI, 7, .inl (upd g4 (Int32.toNatClampNeg (nI k)) (vf4 i))))] : va_W) ++ va_pl L (zz_F K V)) hP hD rfl
        obtain ⟨hP9, hD9⟩ := zz_part2 (cx := [(a 43, .inr (5, [.ref (a 44), .ref (a 45), .ref (a 46), .ref (a 47), .ref (a 48), .ref (a 49), .ref (a 50), .ref (a 51), .int (nI cc), .int (nI (np + 1)), .int (nI nt0), .int hd])), (a 44, .inl (cI, 7, .inl (upd g0 (Int32.toNatClampNeg (nI k)) (nI i)))), (a 45, .inl (cI, 7, .inl (upd g1 (Int32.toNatClampNeg (nI k)) ST))), (a 46, .inl (cI, 7, .inl (upd g2 (Int32.toNatClampNeg (nI k)) (vf2 i)))), (a 47, .inl (cI, 7, .inl (upd g3 (Int32.toNatClampNeg (nI k)) (vf3 i)))), (a 48, .inl (cI, 7, .inl (upd g4 (Int32.toNatClampNeg (nI k)) (vf4 i))))]) hP hD [0, 1, 2, 3, 4, 5] (by decide) rfl
        have hK9 := hK.sub (tys' := [(cI, .int)]) [0] rfl
        exact W.vret hx hb hr (fun t ht hW => ⟨⟨((upd g0 (Int32.toNatClampNeg (nI k)) (nI i)), (upd g1 (Int32.toNatClampNeg (nI k)) ST), (upd g2 (Int32.toNatClampNeg (nI k)) (vf2 i)), (upd g3 (Int32.toNatClampNeg (nI k)) (vf3 i)), (upd g4 (Int32.toNatClampNeg (nI k)) (vf4 i))), rfl, ⟨k, ST, zST, by omega, zz_sh_e is0 (by omega), zz_sh_e is1 (by omega), zz_sh_e is2 (by omega), zz_sh_e is3 (by omega), zz_sh_e is4 (by omega), (by first | exact Or.inl (by omega) | exact Or.inr (by rw [← is1.1 (k - 1) (by omega)]; omega)), iST⟩, by rw [ht]; exact hP9, va_K.moved hW.alike hK9, hD9⟩, hS.F ht⟩) hS.2.2 dX5_take_133
      · have zc_7 := c_7
        rw [Int32.le_iff_toInt_le] at zc_7
        refine lv_aload_n hx hb dX5_take_52 rfl (lv_at hl 0 rfl) ?_
        refine lv_iload hx hb dX5_take_53 (lv_at hl 5 rfl) ?_
        refine lv_iconst (v := 1) hx hb dX5_take_55 (by decide) ?_
        refine lv_isub hx hb dX5_take_56 ?_
        refine zz_seti (nI (k - 1)) (zz_predN (by omega)) ?_
        refine lv_iload hx hb dX5_take_57 (lv_at hl 5 rfl) ?_
        obtain ⟨hPc, hDc⟩ := zz_sub2 (ws' := [(a 43, .inr (5, [.ref (a 44), .ref (a 45), .ref (a 46), .ref (a 47), .ref (a 48), .ref (a 49), .ref (a 50), .ref (a 51), .int (nI cc), .int (nI np), .int (nI nt0), .int hd])), (a 44, .inl (cI, 7, .inl g0)), (a 45, .inl (cI, 7, .inl g1)), (a 46, .inl (cI, 7, .inl g2)), (a 47, .inl (cI, 7, .inl g3)), (a 48, .inl (cI, 7, .inl g4))]) hP hD [0, 1, 2, 3, 4, 5] (by decide) rfl
        have hKc := hK.sub (tys' := [(cI, .int)]) [0] rfl
        have hFc := zz_free1 hDc hS hA
        refine va_callv (va_runV (As := [.int (nI (k - 1)), .int (nI k)]) (rest := []) ⟨hx, hb, hml, hown, hw⟩ (kx_move l dC dI a cI np cc nt0 hd g0 g1 g2 g3 g4 (k - 1) k H.size (by omega) (by omega)) ⟨callB_of 2 hw (zz_good tw_151) rfl rfl rfl (hw _ tw_152) (hw _ tw_153) (by decide +kernel) ⟨Nat.le_of_ble_eq_true rfl, Nat.le_of_ble_eq_true rfl⟩, (hw _ tw_154), (hw _ tw_155)⟩ ⟨zz_blind, va_recv hKc hPc (ci := 5) (q0 := 0) rfl rfl, zz_pre hPc hKc hDc hN⟩ rfl rfl hl.1 rfl (lv_room (Nat.le_of_ble_eq_true rfl)) dX5_take_59 ⟨Nat.le_of_ble_eq_true rfl, Nat.le_of_ble_eq_true rfl⟩) hS (fun q _ h => hFc q h) hFc (fun u_11 t H1 locs ht hvm e_11 hB hz1 hk1 hS => ?_)
        try dsimp only at e_11
        obtain ⟨m0, m1, m2, m3, m4⟩ := u_11
        obtain ⟨hP1, hK1, hD1⟩ := hB
        rw [ht] at hP1
        have hK1 := va_K.moved hvm.symm hK1
        try dsimp only at e_11
        obtain ⟨hP, hD⟩ := va_joinQ (wr := []) (w1 := [(a 43, .inr (5, [.ref (a 44), .ref (a 45), .ref (a 46), .ref (a 47), .ref (a 48), .ref (a 49), .ref (a 50), .ref (a 51), .int (nI cc), .int (nI np), .int (nI nt0), .int hd])), (a 44, .inl (cI, 7, .inl m0)), (a 45, .inl (cI, 7, .inl m1)), (a 46, .inl (cI, 7, .inl m2)), (a 47, .inl (cI, 7, .inl m3)), (a 48, .inl (cI, 7, .inl m4))]) hP hD [0, 1, 2, 3, 4, 5] [] rfl rfl (by decide) (by decide) hk1 hFc hP1 hD1
        clear hk1 ht hvm
        generalize H1 = H at hP hS ⊢
        obtain ⟨hP, hD⟩ := zz_ty (D := (dC, dI)) (cl := vwCl) (A := A) (H := H) (([(a 43, .inr (5, [.ref (a 44), .ref (a 45), .ref (a 46), .ref (a 47), .ref (a 48), .ref (a 49), .ref (a 50), .ref (a 51), .int (nI cc), .int (nI np), .int (nI nt0), .int hd])), (a 44, .inl (cI, 7, .inl m0)), (a 45, .inl (cI, 7, .inl m1)), (a 46, .inl (cI, 7, .inl m2)), (a 47, .inl (cI, 7, .inl m3)), (a 48, .inl (cI, 7, .inl m4))] : va_W) ++ va_pl L (zz_F K V)) hP hD rfl
        obtain ⟨em0, em1, em2, em3, em4⟩ := e_11
        refine lv_iload hx hb dX5_take_62 (lv_at hl 5 rfl) ?_
        refine lv_iconst (v := 1) hx hb dX5_take_64 (by decide) ?_
        refine lv_isub hx hb dX5_take_65 ?_
        refine zz_seti (nI (k - 1)) (zz_predN (by omega)) ?_
        refine lv_istore (lv' := [(4, .int (nI (k - 1))), (0, .ref (a 43)), (1, .int (nI i)), (2, .ref (a (11 + i))), (3, .int ST), (5, .int (nI k))]) hx hb dX5_take_66 hl (by decide) rfl (fun ls hl => ?_)
        refine lv_iinc (v := (nI (k - 1))) (lv' := [(5, .int (nI (k - 1))), (4, .int (nI (k - 1))), (0, .ref (a 43)), (1, .int (nI i)), (2, .ref (a (11 + i))), (3, .int ST)]) hx hb dX5_take_68 hl (k := 5) rfl (zz_predI (by omega)) (by decide) rfl (fun ls hl => ?_)
        refine lv_goto (tgt := 34) hx hb dX5_take_71 (by decide) ?_
        exact ih_34 ((k - 1), m0, m1, m2, m3, m4) ⟨by omega, (by rw [em0]; exact zz_sh_s is0 (by omega) (by omega) (by omega)), (by rw [em1]; exact zz_sh_s is1 (by omega) (by omega) (by omega)), (by rw [em2]; exact zz_sh_s is2 (by omega) (by omega) (by omega)), (by rw [em3]; exact zz_sh_s is3 (by omega) (by omega) (by omega)), (by rw [em4]; exact zz_sh_s is4 (by omega) (by omega) (by omega)), zz_shS is1 (by omega) (by omega) iST⟩ (show (k - 1) < k from by omega) _ _ _ (hP.part (cx := [(a 43, .inr (5, [.ref (a 44), .ref (a 45), .ref (a 46), .ref (a 47), .ref (a 48), .ref (a 49), .ref (a 50), .ref (a 51), .int (nI cc), .int (nI np), .int (nI nt0), .int hd])), (a 44, .inl (cI, 7, .inl m0)), (a 45, .inl (cI, 7, .inl m1)), (a 46, .inl (cI, 7, .inl m2)), (a 47, .inl (cI, 7, .inl m3)), (a 48, .inl (cI, 7, .inl m4))]) [0, 1, 2, 3, 4, 5] rfl) (hD.part (cx := [(a 43, .inr (5, [.ref (a 44), .ref (a 45), .ref (a 46), .ref (a 47), .ref (a 48), .ref (a 49), .ref (a 50), .ref (a 51), .int (nI cc), .int (nI np), .int (nI nt0), .int hd])), (a 44, .inl (cI, 7, .inl m0)), (a 45, .inl (cI, 7, .inl m1)), (a 46, .inl (cI, 7, .inl m2)), (a 47, .inl (cI, 7, .inl m3)), (a 48, .inl (cI, 7, .inl m4))]) [0, 1, 2, 3, 4, 5] (by decide) rfl) hS (lv_sub hl [2, 3, 4, 5, 1, 0] rfl)
  · have zc_1 := c_1
    rw [Int32.lt_iff_toInt_lt] at zc_1
    try rw [zz_toInt np (by omega)] at zc_1
    try rw [show (7 : Int32).toInt = 7 from by decide] at zc_1
    exfalso; omega
