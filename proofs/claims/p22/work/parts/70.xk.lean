set_option maxHeartbeats 4000000 in
set_option maxRecDepth 100000 in
theorem mx_wordOf (l : Launch) (dC : Nat → ClassId) (dI : Nat → Nat → Nat) (p0 : Int64) (sz : Nat) : Met l yX8_wordOf (zz_w yX8_wordOf cX8_wordOf 2 (some .int)) ({ frames := 0, cells := 0, slots := 0, locals := 0 }) (va_Pc [.long p0] (zz_B (dC, dI) sz [] [])) (va_Qi (fun (r : Int32) (_ : Unit) => (r = -1 ∧ ∀ w : Nat, w < 7 → ¬ p0.toInt = zz_code7.getD w 0) ∨ ∃ w : Nat, w < 7 ∧ r = nI w ∧ p0.toInt = zz_code7.getD w 0) (fun _ _ => True) (va_A [] sz)) 0 0 (va_A [] sz) := by
  refine Met.ofW (cc := cX8_wordOf) (maxL := 2) (ret := (some .int)) (by decide) rfl ?_
  intro p e s m args below meth c s₁ B hml hv
  obtain ⟨rfl, hsz, hP, hK, hD0, hN⟩ := hv
  have hx := B.exec
  have hb := B.bytes
  have hr := B.returns
  have hts := atoms_spec (ws := zz_w yX8_wordOf cX8_wordOf 2 (some .int)) B.pre
  have hw : ∀ w ∈ zz_all, w.before _ s = true := fun w h => hts w (List.mem_cons_of_mem _ h)
  have hown : s.vm.findClass RX8 = some m.cls := findClass_of_methodNamed B.named
  have hlocks := B.notSynchronized
  subst hsz
  have hD := hD0
  generalize hAe : va_A [] s.heap.size = A
  have hA : ∀ q : Nat, s.heap.size ≤ q → A q := fun q h => by rw [← hAe]; exact Or.inr h
  have hS : va_S A s.heap s.heap [] := va_S.rf
  have hP : va_P (dC, dI) vwCl [] s.heap := hP
  have hl := lv_entry ([.long p0]) (n := 2) (Nat.le_of_ble_eq_true rfl)
  rw [lg_entry_eq]
  generalize (lg_sl ([.long p0]) ++ List.replicate (2 - (lg_sl ([.long p0])).length) Slot.unset).toArray = ls at hl ⊢
  have hl : lv_has ls 2 [(0, .long p0)] := hl
  refine lv_lload_n hx hb dX8_wordOf_0 rfl (lv_at hl 0 rfl) ?_
  refine lv_ldc2 (v := 816978868) hx hb hown (hw _ tw_289) dX8_wordOf_1 ?_
  refine zz_setl (Int32.toInt64 816978868) (by decide) ?_
  refine W.lcmp hx hb dX8_wordOf_4 ?_
  refine lv_if_ne (tgt := 10) hx hb dX8_wordOf_5 (by decide) (fun c_1 => ?_) (fun c_1 => ?_)
  · refine lv_lload_n hx hb dX8_wordOf_10 rfl (lv_at hl 0 rfl) ?_
    refine lv_ldc2 (v := 13260912) hx hb hown (hw _ tw_290) dX8_wordOf_11 ?_
    refine zz_setl (Int32.toInt64 13260912) (by decide) ?_
    refine W.lcmp hx hb dX8_wordOf_14 ?_
    refine lv_if_ne (tgt := 20) hx hb dX8_wordOf_15 (by decide) (fun c_2 => ?_) (fun c_2 => ?_)
    · refine lv_lload_n hx hb dX8_wordOf_20 rfl (lv_at hl 0 rfl) ?_
      refine lv_ldc2 (v := 596061369) hx hb hown (hw _ tw_291) dX8_wordOf_21 ?_
      refine zz_setl (Int32.toInt64 596061369) (by decide) ?_
      refine W.lcmp hx hb dX8_wordOf_24 ?_
      refine lv_if_ne (tgt := 30) hx hb dX8_wordOf_25 (by decide) (fun c_3 => ?_) (fun c_3 => ?_)
      · refine lv_lload_n hx hb dX8_wordOf_30 rfl (lv_at hl 0 rfl) ?_
        refine lv_ldc2 (v := 747048165) hx hb hown (hw _ tw_292) dX8_wordOf_31 ?_
        refine zz_setl (Int32.toInt64 747048165) (by decide) ?_
        refine W.lcmp hx hb dX8_wordOf_34 ?_
        refine lv_if_ne (tgt := 40) hx hb dX8_wordOf_35 (by decide) (fun c_4 => ?_) (fun c_4 => ?_)
        · refine lv_lload_n hx hb dX8_wordOf_40 rfl (lv_at hl 0 rfl) ?_
          refine lv_ldc2 (v := 667556069) hx hb hown (hw _ tw_293) dX8_wordOf_41 ?_
          refine zz_setl (Int32.toInt64 667556069) (by decide) ?_
          refine W.lcmp hx hb dX8_wordOf_44 ?_
          refine lv_if_ne (tgt := 50) hx hb dX8_wordOf_45 (by decide) (fun c_5 => ?_) (fun c_5 => ?_)
          · refine lv_lload_n hx hb dX8_wordOf_50 rfl (lv_at hl 0 rfl) ?_
            refine lv_ldc2 (v := 10157028) hx hb hown (hw _ tw_294) dX8_wordOf_51 ?_
            refine zz_setl (Int32.toInt64 10157028) (by decide) ?_
            refine W.lcmp hx hb dX8_wordOf_54 ?_
            refine lv_if_ne (tgt := 60) hx hb dX8_wordOf_55 (by decide) (fun c_6 => ?_) (fun c_6 => ?_)
            · refine lv_lload_n hx hb dX8_wordOf_60 rfl (lv_at hl 0 rfl) ?_
              refine lv_ldc2 (v := 14555621) hx hb hown (hw _ tw_295) dX8_wordOf_61 ?_
              refine zz_setl (Int32.toInt64 14555621) (by decide) ?_
              refine W.lcmp hx hb dX8_wordOf_64 ?_
              refine lv_if_ne (tgt := 71) hx hb dX8_wordOf_65 (by decide) (fun c_7 => ?_) (fun c_7 => ?_)
              · refine lv_iconst (v := (-1)) hx hb dX8_wordOf_71 (by decide) ?_
                exact W.iret (v := (-1)) hx hb hr (fun t ht hW => ⟨⟨(-1), (), rfl, (Or.inl ⟨rfl, zz_all7 (P := fun w => ¬ p0.toInt = zz_code7.getD w 0) (zz_cmpN (y := 816978868) c_1) (zz_cmpN (y := 13260912) c_2) (zz_cmpN (y := 596061369) c_3) (zz_cmpN (y := 747048165) c_4) (zz_cmpN (y := 667556069) c_5) (zz_cmpN (y := 10157028) c_6) (zz_cmpN (y := 14555621) c_7)⟩), trivial⟩, hS.F ht⟩) hS.2.2 dX8_wordOf_72
              · refine lv_bipush (v := 6) hx hb dX8_wordOf_68 (by decide) ?_
                exact W.iret (v := 6) hx hb hr (fun t ht hW => ⟨⟨6, (), rfl, (Or.inr ⟨6, by decide, by decide, zz_cmp0 (y := 14555621) c_7⟩), trivial⟩, hS.F ht⟩) hS.2.2 dX8_wordOf_70
            · refine lv_iconst (v := 5) hx hb dX8_wordOf_58 (by decide) ?_
              exact W.iret (v := 5) hx hb hr (fun t ht hW => ⟨⟨5, (), rfl, (Or.inr ⟨5, by decide, by decide, zz_cmp0 (y := 10157028) c_6⟩), trivial⟩, hS.F ht⟩) hS.2.2 dX8_wordOf_59
          · refine lv_iconst (v := 4) hx hb dX8_wordOf_48 (by decide) ?_
            exact W.iret (v := 4) hx hb hr (fun t ht hW => ⟨⟨4, (), rfl, (Or.inr ⟨4, by decide, by decide, zz_cmp0 (y := 667556069) c_5⟩), trivial⟩, hS.F ht⟩) hS.2.2 dX8_wordOf_49
        · refine lv_iconst (v := 3) hx hb dX8_wordOf_38 (by decide) ?_
          exact W.iret (v := 3) hx hb hr (fun t ht hW => ⟨⟨3, (), rfl, (Or.inr ⟨3, by decide, by decide, zz_cmp0 (y := 747048165) c_4⟩), trivial⟩, hS.F ht⟩) hS.2.2 dX8_wordOf_39
      · refine lv_iconst (v := 2) hx hb dX8_wordOf_28 (by decide) ?_
        exact W.iret (v := 2) hx hb hr (fun t ht hW => ⟨⟨2, (), rfl, (Or.inr ⟨2, by decide, by decide, zz_cmp0 (y := 596061369) c_3⟩), trivial⟩, hS.F ht⟩) hS.2.2 dX8_wordOf_29
    · refine lv_iconst (v := 1) hx hb dX8_wordOf_18 (by decide) ?_
      exact W.iret (v := 1) hx hb hr (fun t ht hW => ⟨⟨1, (), rfl, (Or.inr ⟨1, by decide, by decide, zz_cmp0 (y := 13260912) c_2⟩), trivial⟩, hS.F ht⟩) hS.2.2 dX8_wordOf_19
  · refine lv_iconst (v := 0) hx hb dX8_wordOf_8 (by decide) ?_
    exact W.iret (v := 0) hx hb hr (fun t ht hW => ⟨⟨0, (), rfl, (Or.inr ⟨0, by decide, by decide, zz_cmp0 (y := 816978868) c_1⟩), trivial⟩, hS.F ht⟩) hS.2.2 dX8_wordOf_9
set_option maxHeartbeats 4000000 in
set_option maxRecDepth 100000 in
theorem mx_next (l : Launch) (dC : Nat → ClassId) (dI : Nat → Nat → Nat) (b : Nat → Nat) (gg : Nat → Int32) (mt : Nat) (mc : Nat) (mh : Nat) (mf : Nat) (md : Nat) (ma : Nat) (tk : Int32) (so : Int32) (tl : Int32) (wr : Int32) (wa : Int32) (cB : ClassId) (ta : Nat → Int32) (ml : Nat) (cs : Nat → Int32) (sz : Nat) (hml : ml ≤ 200) (hma : ma ≤ ml) (hcs : ∀ i : Nat, i < ml → zz_by (ta i) (cs i)) (hce : ∀ i : Nat, ml ≤ i → cs i = 32) : Met l yX8_next (zz_w yX8_next cX8_next 6 none) ({ frames := 2, cells := 0, slots := 0, locals := 45 }) (va_Pc [.ref (b 0), .int (nI ml)] (zz_B (dC, dI) sz [(b 0, .inr (8, [.ref (b 1), .int (nI mt), .int (nI ma), .int tk, .int so, .int tl, .int wr, .int wa, .int (gg 8), .int (gg 9), .ref (b 11), .ref (b 12), .ref (b 13), .int (nI mc), .int (nI mh), .ref (b 16), .ref (b 17), .ref (b 18), .ref (b 19), .ref (b 20), .ref (b 21), .ref (b 22), .ref (b 23), .ref (b 24), .int (nI mf), .ref (b 26), .ref (b 27), .ref (b 28), .ref (b 29), .ref (b 30), .ref (b 31), .ref (b 32), .int (gg 32), .int (nI md), .ref (b 35), .ref (b 36), .ref (b 37), .ref (b 38), .ref (b 39), .ref (b 40), .int (gg 40), .ref (b 42), .ref (b 43), .ref (b 44), .int (gg 44), .ref (b 46), .ref (b 47), .int (gg 47), .ref (b 49)])), (b 1, .inl (cB, 200, .inl ta))] [(cB, .byte)])) (va_Qv (fun (u : Nat × Int32 × Int32 × Int32) => match u with | (m2, k2, s2, t2) => zz_np cs ml ma m2 k2 s2 t2) (fun (u : Nat × Int32 × Int32 × Int32) (t : State) => match u with | (u0, u1, u2, u3) => va_P (dC, dI) vwCl [(b 0, .inr (8, [.ref (b 1), .int (nI mt), .int (nI u0), .int u1, .int u2, .int u3, .int wr, .int wa, .int (gg 8), .int (gg 9), .ref (b 11), .ref (b 12), .ref (b 13), .int (nI mc), .int (nI mh), .ref (b 16), .ref (b 17), .ref (b 18), .ref (b 19), .ref (b 20), .ref (b 21), .ref (b 22), .ref (b 23), .ref (b 24), .int (nI mf), .ref (b 26), .ref (b 27), .ref (b 28), .ref (b 29), .ref (b 30), .ref (b 31), .ref (b 32), .int (gg 32), .int (nI md), .ref (b 35), .ref (b 36), .ref (b 37), .ref (b 38), .ref (b 39), .ref (b 40), .int (gg 40), .ref (b 42), .ref (b 43), .ref (b 44), .int (gg 44), .ref (b 46), .ref (b 47), .int (gg 47), .ref (b 49)])), (b 1, .inl (cB, 200, .inl ta))] t.heap ∧ va_K (dC, dI) vwCl [(cB, .byte)] t ∧ va_D (va_A [(b 0, .inr (8, [.ref (b 1), .int (nI mt), .int (nI ma), .int tk, .int so, .int tl, .int wr, .int wa, .int (gg 8), .int (gg 9), .ref (b 11), .ref (b 12), .ref (b 13), .int (nI mc), .int (nI mh), .ref (b 16), .ref (b 17), .ref (b 18), .ref (b 19), .ref (b 20), .ref (b 21), .ref (b 22), .ref (b 23), .ref (b 24), .int (nI mf), .ref (b 26), .ref (b 27), .ref (b 28), .ref (b 29), .ref (b 30), .ref (b 31), .ref (b 32), .int (gg 32), .int (nI md), .ref (b 35), .ref (b 36), .ref (b 37), .ref (b 38), .ref (b 39), .ref (b 40), .int (gg 40), .ref (b 42), .ref (b 43), .ref (b 44), .int (gg 44), .ref (b 46), .ref (b 47), .int (gg 47), .ref (b 49)])), (b 1, .inl (cB, 200, .inl ta))] sz) [(b 0, .inr (8, [.ref (b 1), .int (nI mt), .int (nI u0), .int u1, .int u2, .int u3, .int wr, .int wa, .int (gg 8), .int (gg 9), .ref (b 11), .ref (b 12), .ref (b 13), .int (nI mc), .int (nI mh), .ref (b 16), .ref (b 17), .ref (b 18), .ref (b 19), .ref (b 20), .ref (b 21), .ref (b 22), .ref (b 23), .ref (b 24), .int (nI mf), .ref (b 26), .ref (b 27), .ref (b 28), .ref (b 29), .ref (b 30), .ref (b 31), .ref (b 32), .int (gg 32), .int (nI md), .ref (b 35), .ref (b 36), .ref (b 37), .ref (b 38), .ref (b 39), .ref (b 40), .int (gg 40), .ref (b 42), .ref (b 43), .ref (b 44), .int (gg 44), .ref (b 46), .ref (b 47), .int (gg 47), .ref (b 49)])), (b 1, .inl (cB, 200, .inl ta))]) (va_A [(b 0, .inr (8, [.ref (b 1), .int (nI mt), .int (nI ma), .int tk, .int so, .int tl, .int wr, .int wa, .int (gg 8), .int (gg 9), .ref (b 11), .ref (b 12), .ref (b 13), .int (nI mc), .int (nI mh), .ref (b 16), .ref (b 17), .ref (b 18), .ref (b 19), .ref (b 20), .ref (b 21), .ref (b 22), .ref (b 23), .ref (b 24), .int (nI mf), .ref (b 26), .ref (b 27), .ref (b 28), .ref (b 29), .ref (b 30), .ref (b 31), .ref (b 32), .int (gg 32), .int (nI md), .ref (b 35), .ref (b 36), .ref (b 37), .ref (b 38), .ref (b 39), .ref (b 40), .int (gg 40), .ref (b 42), .ref (b 43), .ref (b 44), .int (gg 44), .ref (b 46), .ref (b 47), .int (gg 47), .ref (b 49)])), (b 1, .inl (cB, 200, .inl ta))] sz)) 0 0 (va_A [(b 0, .inr (8, [.ref (b 1), .int (nI mt), .int (nI ma), .int tk, .int so, .int tl, .int wr, .int wa, .int (gg 8), .int (gg 9), .ref (b 11), .ref (b 12), .ref (b 13), .int (nI mc), .int (nI mh), .ref (b 16), .ref (b 17), .ref (b 18), .ref (b 19), .ref (b 20), .ref (b 21), .ref (b 22), .ref (b 23), .ref (b 24), .int (nI mf), .ref (b 26), .ref (b 27), .ref (b 28), .ref (b 29), .ref (b 30), .ref (b 31), .ref (b 32), .int (gg 32), .int (nI md), .ref (b 35), .ref (b 36), .ref (b 37), .ref (b 38), .ref (b 39), .ref (b 40), .int (gg 40), .ref (b 42), .ref (b 43), .ref (b 44), .int (gg 44), .ref (b 46), .ref (b 47), .int (gg 47), .ref (b 49)])), (b 1, .inl (cB, 200, .inl ta))] sz) := by
  refine Met.ofW (cc := cX8_next) (maxL := 6) (ret := none) (by decide) rfl ?_
  intro p e s m args below meth c s₁ B hml hv
  obtain ⟨rfl, hsz, hP, hK, hD0, hN⟩ := hv
  have hx := B.exec
  have hb := B.bytes
  have hr := B.returns
  have hts := atoms_spec (ws := zz_w yX8_next cX8_next 6 none) B.pre
  have hw : ∀ w ∈ zz_all, w.before _ s = true := fun w h => hts w (List.mem_cons_of_mem _ h)
  have hown : s.vm.findClass RX8 = some m.cls := findClass_of_methodNamed B.named
  have hlocks := B.notSynchronized
  subst hsz
  have hD := hD0.self (sz := s.heap.size)
  generalize hAe : va_A [(b 0, .inr (8, [.ref (b 1), .int (nI mt), .int (nI ma), .int tk, .int so, .int tl, .int wr, .int wa, .int (gg 8), .int (gg 9), .ref (b 11), .ref (b 12), .ref (b 13), .int (nI mc), .int (nI mh), .ref (b 16), .ref (b 17), .ref (b 18), .ref (b 19), .ref (b 20), .ref (b 21), .ref (b 22), .ref (b 23), .ref (b 24), .int (nI mf), .ref (b 26), .ref (b 27), .ref (b 28), .ref (b 29), .ref (b 30), .ref (b 31), .ref (b 32), .int (gg 32), .int (nI md), .ref (b 35), .ref (b 36), .ref (b 37), .ref (b 38), .ref (b 39), .ref (b 40), .int (gg 40), .ref (b 42), .ref (b 43), .ref (b 44), .int (gg 44), .ref (b 46), .ref (b 47), .int (gg 47), .ref (b 49)])), (b 1, .inl (cB, 200, .inl ta))] s.heap.size = A at hD ⊢
  have hA : ∀ q : Nat, s.heap.size ≤ q → A q := fun q h => by rw [← hAe]; exact Or.inr h
  have hS : va_S A s.heap s.heap [] := va_S.rf
  have hP : va_P (dC, dI) vwCl [(b 0, .inr (8, [.ref (b 1), .int (nI mt), .int (nI ma), .int tk, .int so, .int tl, .int wr, .int wa, .int (gg 8), .int (gg 9), .ref (b 11), .ref (b 12), .ref (b 13), .int (nI mc), .int (nI mh), .ref (b 16), .ref (b 17), .ref (b 18), .ref (b 19), .ref (b 20), .ref (b 21), .ref (b 22), .ref (b 23), .ref (b 24), .int (nI mf), .ref (b 26), .ref (b 27), .ref (b 28), .ref (b 29), .ref (b 30), .ref (b 31), .ref (b 32), .int (gg 32), .int (nI md), .ref (b 35), .ref (b 36), .ref (b 37), .ref (b 38), .ref (b 39), .ref (b 40), .int (gg 40), .ref (b 42), .ref (b 43), .ref (b 44), .int (gg 44), .ref (b 46), .ref (b 47), .int (gg 47), .ref (b 49)])), (b 1, .inl (cB, 200, .inl ta))] s.heap := hP
  have hl := lv_entry ([.ref (b 0), .int (nI ml)]) (n := 6) (Nat.le_of_ble_eq_true rfl)
  rw [lg_entry_eq]
  generalize (lg_sl ([.ref (b 0), .int (nI ml)]) ++ List.replicate (6 - (lg_sl ([.ref (b 0), .int (nI ml)])).length) Slot.unset).toArray = ls at hl ⊢
  have hl : lv_has ls 6 [(0, .ref (b 0)), (1, .int (nI ml))] := hl
  refine zz_loopS (fun (k : (Nat)) => [(b 0, .inr (8, [.ref (b 1), .int (nI mt), .int (nI k), .int tk, .int so, .int tl, .int wr, .int wa, .int (gg 8), .int (gg 9), .ref (b 11), .ref (b 12), .ref (b 13), .int (nI mc), .int (nI mh), .ref (b 16), .ref (b 17), .ref (b 18), .ref (b 19), .ref (b 20), .ref (b 21), .ref (b 22), .ref (b 23), .ref (b 24), .int (nI mf), .ref (b 26), .ref (b 27), .ref (b 28), .ref (b 29), .ref (b 30), .ref (b 31), .ref (b 32), .int (gg 32), .int (nI md), .ref (b 35), .ref (b 36), .ref (b 37), .ref (b 38), .ref (b 39), .ref (b 40), .int (gg 40), .ref (b 42), .ref (b 43), .ref (b 44), .int (gg 44), .ref (b 46), .ref (b 47), .int (gg 47), .ref (b 49)])), (b 1, .inl (cB, 200, .inl ta))]) (fun (k : (Nat)) => [(0, .ref (b 0)), (1, .int (nI ml))]) (fun (k : (Nat)) => ma ≤ k ∧ k ≤ ml ∧ ∀ i : Nat, ma ≤ i → i < k → zz_so (cs i) = 0) (fun (k : (Nat)) => ml - k) (fun u hI H locs ls hP hD hS hl ih_0 => ?_) ma ⟨by omega, by omega, fun i h1 h2 => absurd h2 (by omega)⟩ _ _ _ (hP.sub [0, 1] rfl) (hD.sub [0, 1] (by decide) rfl) hS (lv_sub hl [0, 1] rfl)
  obtain ⟨k, rfl⟩ : ∃ z, z = u := ⟨_, rfl⟩
  obtain ⟨hP, hD⟩ := zz_ty (D := (dC, dI)) (cl := vwCl) (A := A) (H := H) [(b 0, .inr (8, [.ref (b 1), .int (nI mt), .int (nI k), .int tk, .int so, .int tl, .int wr, .int wa, .int (gg 8), .int (gg 9), .ref (b 11), .ref (b 12), .ref (b 13), .int (nI mc), .int (nI mh), .ref (b 16), .ref (b 17), .ref (b 18), .ref (b 19), .ref (b 20), .ref (b 21), .ref (b 22), .ref (b 23), .ref (b 24), .int (nI mf), .ref (b 26), .ref (b 27), .ref (b 28), .ref (b 29), .ref (b 30), .ref (b 31), .ref (b 32), .int (gg 32), .int (nI md), .ref (b 35), .ref (b 36), .ref (b 37), .ref (b 38), .ref (b 39), .ref (b 40), .int (gg 40), .ref (b 42), .ref (b 43), .ref (b 44), .int (gg 44), .ref (b 46), .ref (b 47), .int (gg 47), .ref (b 49)])), (b 1, .inl (cB, 200, .inl ta))] hP hD rfl
  have hl : lv_has ls 6 [(0, .ref (b 0)), (1, .int (nI ml))] := hl
  have hI : ma ≤ k ∧ k ≤ ml ∧ ∀ i : Nat, ma ≤ i → i < k → zz_so (cs i) = 0 := hI
  obtain ⟨ik0, ik1, ib⟩ := hI
  refine lv_aload_n hx hb dX8_next_0 rfl (lv_at hl 0 rfl) ?_
  refine va_get (D := (dC, dI)) (ci := 8) (v := .int (nI k)) (C := RX8) (T := TX8) (N := 49) hx hb hw zz_inX8 hown hK hP 0 rfl rfl 2 (by decide) (hw _ tw_296) (fun _ h9 => h9) rfl dX8_next_1 ?_
  refine lv_iload_n hx hb dX8_next_4 rfl (lv_at hl 1 rfl) ?_
  refine lv_icmp_ge (tgt := 35) hx hb dX8_next_5 (by decide) (fun c_1 => ?_) (fun c_1 => ?_)
  · have zc_1 := c_1
    rw [Int32.le_iff_toInt_le] at zc_1
    try rw [zz_toInt k (by omega)] at zc_1
    try rw [zz_toInt ml (by omega)] at zc_1
    refine lv_aload_n hx hb dX8_next_35 rfl (lv_at hl 0 rfl) ?_
    refine lv_aload_n hx hb dX8_next_36 rfl (lv_at hl 0 rfl) ?_
    refine va_get (D := (dC, dI)) (ci := 8) (v := .int (nI k)) (C := RX8) (T := TX8) (N := 49) hx hb hw zz_inX8 hown hK hP 0 rfl rfl 2 (by decide) (hw _ tw_296) (fun _ h9 => h9) rfl dX8_next_37 ?_
    refine va_put (D := (dC, dI)) (ci := 8) (v := .int (nI k)) (ty := .int) (C := RX8) (T := TX8) (N := 49) hx hb hw zz_inX8 tyX8 tyX8_ok nmX8 hown hK hP hD hS 0 rfl rfl 3 (by decide) (hw _ tw_271) (fun _ h9 => h9) rfl (by decide +kernel) rfl rfl (Nat.le_of_ble_eq_true rfl) dX8_next_40 (fun H locs hP hD hS => ?_)
    obtain ⟨hP, hD⟩ := zz_ty (D := (dC, dI)) (cl := vwCl) (A := A) (H := H) [(b 0, .inr (8, [.ref (b 1), .int (nI mt), .int (nI k), .int (nI k), .int so, .int tl, .int wr, .int wa, .int (gg 8), .int (gg 9), .ref (b 11), .ref (b 12), .ref (b 13), .int (nI mc), .int (nI mh), .ref (b 16), .ref (b 17), .ref (b 18), .ref (b 19), .ref (b 20), .ref (b 21), .ref (b 22), .ref (b 23), .ref (b 24), .int (nI mf), .ref (b 26), .ref (b 27), .ref (b 28), .ref (b 29), .ref (b 30), .ref (b 31), .ref (b 32), .int (gg 32), .int (nI md), .ref (b 35), .ref (b 36), .ref (b 37), .ref (b 38), .ref (b 39), .ref (b 40), .int (gg 40), .ref (b 42), .ref (b 43), .ref (b 44), .int (gg 44), .ref (b 46), .ref (b 47), .int (gg 47), .ref (b 49)])), (b 1, .inl (cB, 200, .inl ta))] hP hD rfl
    refine lv_aload_n hx hb dX8_next_43 rfl (lv_at hl 0 rfl) ?_
    refine va_get (D := (dC, dI)) (ci := 8) (v := .int (nI k)) (C := RX8) (T := TX8) (N := 49) hx hb hw zz_inX8 hown hK hP 0 rfl rfl 2 (by decide) (hw _ tw_296) (fun _ h9 => h9) rfl dX8_next_44 ?_
    refine lv_iload_n hx hb dX8_next_47 rfl (lv_at hl 1 rfl) ?_
    refine lv_icmp_ne (tgt := 57) hx hb dX8_next_48 (by decide) (fun c_2 => ?_) (fun c_2 => ?_)
    · have zc_2 := c_2
      rw [← Int32.toInt_inj] at zc_2
      try rw [zz_toInt k (by omega)] at zc_2
      try rw [zz_toInt ml (by omega)] at zc_2
      refine lv_aload_n hx hb dX8_next_57 rfl (lv_at hl 0 rfl) ?_
      refine va_get (D := (dC, dI)) (ci := 8) (v := .ref (b 1)) (C := RX8) (T := TX8) (N := 49) hx hb hw zz_inX8 hown hK hP 0 rfl rfl 0 (by decide) (hw _ tw_191) (fun _ h9 => h9) rfl dX8_next_58 ?_
      refine lv_aload_n hx hb dX8_next_61 rfl (lv_at hl 0 rfl) ?_
      refine va_get (D := (dC, dI)) (ci := 8) (v := .int (nI k)) (C := RX8) (T := TX8) (N := 49) hx hb hw zz_inX8 hown hK hP 0 rfl rfl 2 (by decide) (hw _ tw_296) (fun _ h9 => h9) rfl dX8_next_62 ?_
      refine va_bald hx hb hK hP 1 0 rfl rfl (vp_in_iff.mpr (by rw [zz_toInt k (by omega)]; constructor <;> omega)) dX8_next_65 ?_
      refine zz_seti (ta k) (congrArg ta (zz_cl (by omega))) ?_
      refine lv_istore_n (lv' := [(2, .int (ta k)), (0, .ref (b 0)), (1, .int (nI ml))]) hx hb dX8_next_66 rfl hl (by decide) rfl (fun ls hl => ?_)
      refine lv_iload_n hx hb dX8_next_67 rfl (lv_at hl 0 rfl) ?_
      obtain ⟨hPc, hDc⟩ := zz_sub2 (ws' := []) hP hD [] (by decide) rfl
      have hKc := hK.sub (tys' := []) [] rfl
      have hFc := zz_free0 hS hA
      refine va_calli (va_runS (As := [.int (ta k)]) (rest := []) ⟨hx, hb, hml, hown, hw⟩ (m_isLetter l dC dI (ta k) H.size) ⟨callB_of 1 hw (zz_good tw_297) rfl rfl rfl (hw _ tw_184) (hw _ tw_298) (by decide +kernel) ⟨Nat.le_of_ble_eq_true rfl, Nat.le_of_ble_eq_true rfl⟩, (hw _ tw_299)⟩ ⟨zz_blind, zz_pre hPc hKc hDc hN⟩ rfl rfl hl.1 rfl (lv_room (Nat.le_of_ble_eq_true rfl)) dX8_next_68 ⟨Nat.le_of_ble_eq_true rfl, Nat.le_of_ble_eq_true rfl⟩) hS (fun q _ h => hFc q h) hFc (fun r_3 u_3 t H1 locs ht hvm e_3 hB hz1 hk1 hS => ?_)
      try dsimp only at e_3
      have hP := zz_keep hP hk1
      clear hk1 hB ht hvm
      generalize H1 = H at hP hS ⊢
      refine lv_if_eq (tgt := 187) hx hb dX8_next_71 (by decide) (fun c_4 => ?_) (fun c_4 => ?_)
      · have zc_4 := c_4
        rw [← Int32.toInt_inj] at zc_4
        try rw [show (0 : Int32).toInt = 0 from by decide] at zc_4
        have hn1 : ¬ zz_so (cs k) = 1 := fun h9 => absurd ((zz_by1 (hcs k (by omega))).mp h9) (zz_il0 e_3 c_4)
        refine lv_iload_n hx hb dX8_next_187 rfl (lv_at hl 0 rfl) ?_
        refine lv_i2l (v := Int32.toInt64 (ta k)) hx hb dX8_next_188 rfl ?_
        refine lv_ldc2 (v := 48) hx hb hown (hw _ tw_300) dX8_next_189 ?_
        refine zz_setl (Int32.toInt64 48) (by decide) ?_
        refine lv_ldc2 (v := 57) hx hb hown (hw _ tw_301) dX8_next_192 ?_
        refine zz_setl (Int32.toInt64 57) (by decide) ?_
        obtain ⟨hPc, hDc⟩ := zz_sub2 (ws' := []) hP hD [] (by decide) rfl
        have hKc := hK.sub (tys' := []) [] rfl
        have hFc := zz_free0 hS hA
        refine va_calli (va_runS (As := [.long (Int32.toInt64 (ta k)), .long (Int32.toInt64 48), .long (Int32.toInt64 57)]) (rest := []) ⟨hx, hb, hml, hown, hw⟩ (k_in l dC dI (ta k) 48 57 H.size) ⟨callB_of 3 hw (zz_good tw_183) rfl rfl rfl (hw _ tw_184) (hw _ tw_185) (by decide +kernel) ⟨Nat.le_of_ble_eq_true rfl, Nat.le_of_ble_eq_true rfl⟩, (hw _ tw_186)⟩ ⟨zz_blind, zz_pre hPc hKc hDc hN⟩ rfl rfl hl.1 rfl (lv_room (Nat.le_of_ble_eq_true rfl)) dX8_next_195 ⟨Nat.le_of_ble_eq_true rfl, Nat.le_of_ble_eq_true rfl⟩) hS (fun q _ h => hFc q h) hFc (fun r_5 u_5 t H1 locs ht hvm e_5 hB hz1 hk1 hS => ?_)
        try dsimp only at e_5
        have hP := zz_keep hP hk1
        clear hk1 hB ht hvm
        generalize H1 = H at hP hS ⊢
        refine lv_if_eq (tgt := 294) hx hb dX8_next_198 (by decide) (fun c_6 => ?_) (fun c_6 => ?_)
        · have zc_6 := c_6
          rw [e_5, zz_in0, Int32.le_iff_toInt_le, Int32.le_iff_toInt_le] at zc_6
          try rw [show (48 : Int32).toInt = 48 from by decide] at zc_6
          try rw [show (57 : Int32).toInt = 57 from by decide] at zc_6
          have hn2 : ¬ zz_so (cs k) = 2 := fun h9 => absurd ((zz_by2 (hcs k (by omega))).mp h9) (by omega)
          have hn0 : ¬ zz_so (cs k) = 0 := fun h9 => absurd ((zz_by0 (hcs k (by omega))).mp h9) (by omega)
          refine lv_aload_n hx hb dX8_next_294 rfl (lv_at hl 1 rfl) ?_
          refine lv_dup hx hb dX8_next_295 rfl ?_
          refine va_get (D := (dC, dI)) (ci := 8) (v := .int (nI k)) (C := RX8) (T := TX8) (N := 49) hx hb hw zz_inX8 hown hK hP 0 rfl rfl 2 (by decide) (hw _ tw_296) (fun _ h9 => h9) rfl dX8_next_296 ?_
          refine lv_iconst (v := 1) hx hb dX8_next_299 (by decide) ?_
          refine lv_iadd hx hb dX8_next_300 ?_
          refine zz_seti (nI (k + 1)) (nI_1 _) ?_
          refine va_put (D := (dC, dI)) (ci := 8) (v := .int (nI (k + 1))) (ty := .int) (C := RX8) (T := TX8) (N := 49) hx hb hw zz_inX8 tyX8 tyX8_ok nmX8 hown hK hP hD hS 0 rfl rfl 2 (by decide) (hw _ tw_296) (fun _ h9 => h9) rfl (by decide +kernel) rfl rfl (Nat.le_of_ble_eq_true rfl) dX8_next_301 (fun H locs hP hD hS => ?_)
          obtain ⟨hP, hD⟩ := zz_ty (D := (dC, dI)) (cl := vwCl) (A := A) (H := H) [(b 0, .inr (8, [.ref (b 1), .int (nI mt), .int (nI (k + 1)), .int (nI k), .int so, .int tl, .int wr, .int wa, .int (gg 8), .int (gg 9), .ref (b 11), .ref (b 12), .ref (b 13), .int (nI mc), .int (nI mh), .ref (b 16), .ref (b 17), .ref (b 18), .ref (b 19), .ref (b 20), .ref (b 21), .ref (b 22), .ref (b 23), .ref (b 24), .int (nI mf), .ref (b 26), .ref (b 27), .ref (b 28), .ref (b 29), .ref (b 30), .ref (b 31), .ref (b 32), .int (gg 32), .int (nI md), .ref (b 35), .ref (b 36), .ref (b 37), .ref (b 38), .ref (b 39), .ref (b 40), .int (gg 40), .ref (b 42), .ref (b 43), .ref (b 44), .int (gg 44), .ref (b 46), .ref (b 47), .int (gg 47), .ref (b 49)])), (b 1, .inl (cB, 200, .inl ta))] hP hD rfl
          refine lv_aload_n hx hb dX8_next_304 rfl (lv_at hl 1 rfl) ?_
          refine lv_iload_n hx hb dX8_next_305 rfl (lv_at hl 0 rfl) ?_
          refine lv_bipush (v := 59) hx hb dX8_next_306 (by decide) ?_
          refine lv_icmp_ne (tgt := 315) hx hb dX8_next_308 (by decide) (fun c_7 => ?_) (fun c_7 => ?_)
          · have zc_7 := c_7
            rw [← Int32.toInt_inj] at zc_7
            try rw [show (59 : Int32).toInt = 59 from by decide] at zc_7
            refine lv_iconst (v := 4) hx hb dX8_next_315 (by decide) ?_
            refine va_put (D := (dC, dI)) (ci := 8) (v := .int 4) (ty := .int) (C := RX8) (T := TX8) (N := 49) hx hb hw zz_inX8 tyX8 tyX8_ok nmX8 hown hK hP hD hS 0 rfl rfl 4 (by decide) (hw _ tw_302) (fun _ h9 => h9) rfl (by decide +kernel) rfl rfl (Nat.le_of_ble_eq_true rfl) dX8_next_316 (fun H locs hP hD hS => ?_)
            obtain ⟨hP, hD⟩ := zz_ty (D := (dC, dI)) (cl := vwCl) (A := A) (H := H) [(b 0, .inr (8, [.ref (b 1), .int (nI mt), .int (nI (k + 1)), .int (nI k), .int 4, .int tl, .int wr, .int wa, .int (gg 8), .int (gg 9), .ref (b 11), .ref (b 12), .ref (b 13), .int (nI mc), .int (nI mh), .ref (b 16), .ref (b 17), .ref (b 18), .ref (b 19), .ref (b 20), .ref (b 21), .ref (b 22), .ref (b 23), .ref (b 24), .int (nI mf), .ref (b 26), .ref (b 27), .ref (b 28), .ref (b 29), .ref (b 30), .ref (b 31), .ref (b 32), .int (gg 32), .int (nI md), .ref (b 35), .ref (b 36), .ref (b 37), .ref (b 38), .ref (b 39), .ref (b 40), .int (gg 40), .ref (b 42), .ref (b 43), .ref (b 44), .int (gg 44), .ref (b 46), .ref (b 47), .int (gg 47), .ref (b 49)])), (b 1, .inl (cB, 200, .inl ta))] hP hD rfl
            obtain ⟨hP9, hD9⟩ := zz_sub2 (ws' := [(b 0, .inr (8, [.ref (b 1), .int (nI mt), .int (nI (k + 1)), .int (nI k), .int 4, .int tl, .int wr, .int wa, .int (gg 8), .int (gg 9), .ref (b 11), .ref (b 12), .ref (b 13), .int (nI mc), .int (nI mh), .ref (b 16), .ref (b 17), .ref (b 18), .ref (b 19), .ref (b 20), .ref (b 21), .ref (b 22), .ref (b 23), .ref (b 24), .int (nI mf), .ref (b 26), .ref (b 27), .ref (b 28), .ref (b 29), .ref (b 30), .ref (b 31), .ref (b 32), .int (gg 32), .int (nI md), .ref (b 35), .ref (b 36), .ref (b 37), .ref (b 38), .ref (b 39), .ref (b 40), .int (gg 40), .ref (b 42), .ref (b 43), .ref (b 44), .int (gg 44), .ref (b 46), .ref (b 47), .int (gg 47), .ref (b 49)])), (b 1, .inl (cB, 200, .inl ta))]) hP hD [0, 1] (by decide) rfl
            have hK9 := hK.sub (tys' := [(cB, .byte)]) [0] rfl
            exact W.vret hx hb hr (fun t ht hW => ⟨⟨((k + 1), (nI k), 4, tl), rfl, ⟨k, by omega, by omega, rfl, ib, Or.inr (Or.inr (Or.inr ⟨by omega, rfl, Or.inr ⟨zz_so_4 hn0 hn1 hn2 (fun h9 => absurd ((zz_by3 (hcs k (by omega))).mp h9) (by omega)), rfl⟩⟩))⟩, by rw [ht]; exact hP9, va_K.moved hW.alike hK9, hD9⟩, hS.F ht⟩) hS.2.2 dX8_next_319
          · have zc_7 := c_7
            rw [← Int32.toInt_inj] at zc_7
            try rw [show (59 : Int32).toInt = 59 from by decide] at zc_7
            refine lv_iconst (v := 3) hx hb dX8_next_311 (by decide) ?_
            refine lv_goto (tgt := 316) hx hb dX8_next_312 (by decide) ?_
            refine va_put (D := (dC, dI)) (ci := 8) (v := .int 3) (ty := .int) (C := RX8) (T := TX8) (N := 49) hx hb hw zz_inX8 tyX8 tyX8_ok nmX8 hown hK hP hD hS 0 rfl rfl 4 (by decide) (hw _ tw_302) (fun _ h9 => h9) rfl (by decide +kernel) rfl rfl (Nat.le_of_ble_eq_true rfl) dX8_next_316 (fun H locs hP hD hS => ?_)
            obtain ⟨hP, hD⟩ := zz_ty (D := (dC, dI)) (cl := vwCl) (A := A) (H := H) [(b 0, .inr (8, [.ref (b 1), .int (nI mt), .int (nI (k + 1)), .int (nI k), .int 3, .int tl, .int wr, .int wa, .int (gg 8), .int (gg 9), .ref (b 11), .ref (b 12), .ref (b 13), .int (nI mc), .int (nI mh), .ref (b 16), .ref (b 17), .ref (b 18), .ref (b 19), .ref (b 20), .ref (b 21), .ref (b 22), .ref (b 23), .ref (b 24), .int (nI mf), .ref (b 26), .ref (b 27), .ref (b 28), .ref (b 29), .ref (b 30), .ref (b 31), .ref (b 32), .int (gg 32), .int (nI md), .ref (b 35), .ref (b 36), .ref (b 37), .ref (b 38), .ref (b 39), .ref (b 40), .int (gg 40), .ref (b 42), .ref (b 43), .ref (b 44), .int (gg 44), .ref (b 46), .ref (b 47), .int (gg 47), .ref (b 49)])), (b 1, .inl (cB, 200, .inl ta))] hP hD rfl
            obtain ⟨hP9, hD9⟩ := zz_sub2 (ws' := [(b 0, .inr (8, [.ref (b 1), .int (nI mt), .int (nI (k + 1)), .int (nI k), .int 3, .int tl, .int wr, .int wa, .int (gg 8), .int (gg 9), .ref (b 11), .ref (b 12), .ref (b 13), .int (nI mc), .int (nI mh), .ref (b 16), .ref (b 17), .ref (b 18), .ref (b 19), .ref (b 20), .ref (b 21), .ref (b 22), .ref (b 23), .ref (b 24), .int (nI mf), .ref (b 26), .ref (b 27), .ref (b 28), .ref (b 29), .ref (b 30), .ref (b 31), .ref (b 32), .int (gg 32), .int (nI md), .ref (b 35), .ref (b 36), .ref (b 37), .ref (b 38), .ref (b 39), .ref (b 40), .int (gg 40), .ref (b 42), .ref (b 43), .ref (b 44), .int (gg 44), .ref (b 46), .ref (b 47), .int (gg 47), .ref (b 49)])), (b 1, .inl (cB, 200, .inl ta))]) hP hD [0, 1] (by decide) rfl
            have hK9 := hK.sub (tys' := [(cB, .byte)]) [0] rfl
            exact W.vret hx hb hr (fun t ht hW => ⟨⟨((k + 1), (nI k), 3, tl), rfl, ⟨k, by omega, by omega, rfl, ib, Or.inr (Or.inr (Or.inr ⟨by omega, rfl, Or.inl ⟨(zz_by3 (hcs k (by omega))).mpr (by omega), rfl⟩⟩))⟩, by rw [ht]; exact hP9, va_K.moved hW.alike hK9, hD9⟩, hS.F ht⟩) hS.2.2 dX8_next_319
        · have zc_6 := c_6
          rw [e_5, zz_in0, Int32.le_iff_toInt_le, Int32.le_iff_toInt_le] at zc_6
          try rw [show (48 : Int32).toInt = 48 from by decide] at zc_6
          try rw [show (57 : Int32).toInt = 57 from by decide] at zc_6
          have hs2 : zz_so (cs k) = 2 := (zz_by2 (hcs k (by omega))).mpr (by omega)
          refine lv_aload_n hx hb dX8_next_201 rfl (lv_at hl 1 rfl) ?_
          refine lv_iconst (v := 2) hx hb dX8_next_202 (by decide) ?_
          refine va_put (D := (dC, dI)) (ci := 8) (v := .int 2) (ty := .int) (C := RX8) (T := TX8) (N := 49) hx hb hw zz_inX8 tyX8 tyX8_ok nmX8 hown hK hP hD hS 0 rfl rfl 4 (by decide) (hw _ tw_302) (fun _ h9 => h9) rfl (by decide +kernel) rfl rfl (Nat.le_of_ble_eq_true rfl) dX8_next_203 (fun H locs hP hD hS => ?_)
          obtain ⟨hP, hD⟩ := zz_ty (D := (dC, dI)) (cl := vwCl) (A := A) (H := H) [(b 0, .inr (8, [.ref (b 1), .int (nI mt), .int (nI k), .int (nI k), .int 2, .int tl, .int wr, .int wa, .int (gg 8), .int (gg 9), .ref (b 11), .ref (b 12), .ref (b 13), .int (nI mc), .int (nI mh), .ref (b 16), .ref (b 17), .ref (b 18), .ref (b 19), .ref (b 20), .ref (b 21), .ref (b 22), .ref (b 23), .ref (b 24), .int (nI mf), .ref (b 26), .ref (b 27), .ref (b 28), .ref (b 29), .ref (b 30), .ref (b 31), .ref (b 32), .int (gg 32), .int (nI md), .ref (b 35), .ref (b 36), .ref (b 37), .ref (b 38), .ref (b 39), .ref (b 40), .int (gg 40), .ref (b 42), .ref (b 43), .ref (b 44), .int (gg 44), .ref (b 46), .ref (b 47), .int (gg 47), .ref (b 49)])), (b 1, .inl (cB, 200, .inl ta))] hP hD rfl
          refine lv_aload_n hx hb dX8_next_206 rfl (lv_at hl 1 rfl) ?_
          refine lv_iconst (v := 0) hx hb dX8_next_207 (by decide) ?_
          refine va_put (D := (dC, dI)) (ci := 8) (v := .int 0) (ty := .int) (C := RX8) (T := TX8) (N := 49) hx hb hw zz_inX8 tyX8 tyX8_ok nmX8 hown hK hP hD hS 0 rfl rfl 5 (by decide) (hw _ tw_303) (fun _ h9 => h9) rfl (by decide +kernel) rfl rfl (Nat.le_of_ble_eq_true rfl) dX8_next_208 (fun H locs hP hD hS => ?_)
          obtain ⟨hP, hD⟩ := zz_ty (D := (dC, dI)) (cl := vwCl) (A := A) (H := H) [(b 0, .inr (8, [.ref (b 1), .int (nI mt), .int (nI k), .int (nI k), .int 2, .int 0, .int wr, .int wa, .int (gg 8), .int (gg 9), .ref (b 11), .ref (b 12), .ref (b 13), .int (nI mc), .int (nI mh), .ref (b 16), .ref (b 17), .ref (b 18), .ref (b 19), .ref (b 20), .ref (b 21), .ref (b 22), .ref (b 23), .ref (b 24), .int (nI mf), .ref (b 26), .ref (b 27), .ref (b 28), .ref (b 29), .ref (b 30), .ref (b 31), .ref (b 32), .int (gg 32), .int (nI md), .ref (b 35), .ref (b 36), .ref (b 37), .ref (b 38), .ref (b 39), .ref (b 40), .int (gg 40), .ref (b 42), .ref (b 43), .ref (b 44), .int (gg 44), .ref (b 46), .ref (b 47), .int (gg 47), .ref (b 49)])), (b 1, .inl (cB, 200, .inl ta))] hP hD rfl
          refine zz_loopS (fun (u : (Nat) × (Int32)) => match u with | (j, td) => [(b 0, .inr (8, [.ref (b 1), .int (nI mt), .int (nI (k + j)), .int (nI k), .int 2, .int td, .int wr, .int wa, .int (gg 8), .int (gg 9), .ref (b 11), .ref (b 12), .ref (b 13), .int (nI mc), .int (nI mh), .ref (b 16), .ref (b 17), .ref (b 18), .ref (b 19), .ref (b 20), .ref (b 21), .ref (b 22), .ref (b 23), .ref (b 24), .int (nI mf), .ref (b 26), .ref (b 27), .ref (b 28), .ref (b 29), .ref (b 30), .ref (b 31), .ref (b 32), .int (gg 32), .int (nI md), .ref (b 35), .ref (b 36), .ref (b 37), .ref (b 38), .ref (b 39), .ref (b 40), .int (gg 40), .ref (b 42), .ref (b 43), .ref (b 44), .int (gg 44), .ref (b 46), .ref (b 47), .int (gg 47), .ref (b 49)])), (b 1, .inl (cB, 200, .inl ta))]) (fun (u : (Nat) × (Int32)) => match u with | (j, td) => [(0, .ref (b 0)), (1, .int (nI ml)), (2, .int (ta k))]) (fun (u : (Nat) × (Int32)) => match u with | (j, td) => k + j ≤ ml ∧ zz_run cs 2 k j ∧ zz_tn td (zz_nv cs k j)) (fun (u : (Nat) × (Int32)) => match u with | (j, td) => ml - (k + j)) (fun u hI H locs ls hP hD hS hl ih_211 => ?_) (0, 0) ⟨by omega, (fun i hi => absurd hi (by omega)), zz_tn_0⟩ _ _ _ (hP.sub [0, 1] rfl) (hD.sub [0, 1] (by decide) rfl) hS (lv_sub hl [1, 2, 0] rfl)
          obtain ⟨j, td⟩ := u
          obtain ⟨hP, hD⟩ := zz_ty (D := (dC, dI)) (cl := vwCl) (A := A) (H := H) [(b 0, .inr (8, [.ref (b 1), .int (nI mt), .int (nI (k + j)), .int (nI k), .int 2, .int td, .int wr, .int wa, .int (gg 8), .int (gg 9), .ref (b 11), .ref (b 12), .ref (b 13), .int (nI mc), .int (nI mh), .ref (b 16), .ref (b 17), .ref (b 18), .ref (b 19), .ref (b 20), .ref (b 21), .ref (b 22), .ref (b 23), .ref (b 24), .int (nI mf), .ref (b 26), .ref (b 27), .ref (b 28), .ref (b 29), .ref (b 30), .ref (b 31), .ref (b 32), .int (gg 32), .int (nI md), .ref (b 35), .ref (b 36), .ref (b 37), .ref (b 38), .ref (b 39), .ref (b 40), .int (gg 40), .ref (b 42), .ref (b 43), .ref (b 44), .int (gg 44), .ref (b 46), .ref (b 47), .int (gg 47), .ref (b 49)])), (b 1, .inl (cB, 200, .inl ta))] hP hD rfl
          have hl : lv_has ls 6 [(0, .ref (b 0)), (1, .int (nI ml)), (2, .int (ta k))] := hl
          have hI : k + j ≤ ml ∧ zz_run cs 2 k j ∧ zz_tn td (zz_nv cs k j) := hI
          obtain ⟨ij0, ij2, it⟩ := hI
          refine lv_aload_n hx hb dX8_next_211 rfl (lv_at hl 0 rfl) ?_
          refine va_get (D := (dC, dI)) (ci := 8) (v := .int (nI (k + j))) (C := RX8) (T := TX8) (N := 49) hx hb hw zz_inX8 hown hK hP 0 rfl rfl 2 (by decide) (hw _ tw_296) (fun _ h9 => h9) rfl dX8_next_212 ?_
          refine lv_iload_n hx hb dX8_next_215 rfl (lv_at hl 1 rfl) ?_
          refine lv_icmp_ge (tgt := 319) hx hb dX8_next_216 (by decide) (fun c_8 => ?_) (fun c_8 => ?_)
          · have zc_8 := c_8
            rw [Int32.le_iff_toInt_le] at zc_8
            try rw [zz_toInt (k + j) (by omega)] at zc_8
            try rw [zz_toInt ml (by omega)] at zc_8
            obtain ⟨hP9, hD9⟩ := zz_sub2 (ws' := [(b 0, .inr (8, [.ref (b 1), .int (nI mt), .int (nI (k + j)), .int (nI k), .int 2, .int td, .int wr, .int wa, .int (gg 8), .int (gg 9), .ref (b 11), .ref (b 12), .ref (b 13), .int (nI mc), .int (nI mh), .ref (b 16), .ref (b 17), .ref (b 18), .ref (b 19), .ref (b 20), .ref (b 21), .ref (b 22), .ref (b 23), .ref (b 24), .int (nI mf), .ref (b 26), .ref (b 27), .ref (b 28), .ref (b 29), .ref (b 30), .ref (b 31), .ref (b 32), .int (gg 32), .int (nI md), .ref (b 35), .ref (b 36), .ref (b 37), .ref (b 38), .ref (b 39), .ref (b 40), .int (gg 40), .ref (b 42), .ref (b 43), .ref (b 44), .int (gg 44), .ref (b 46), .ref (b 47), .int (gg 47), .ref (b 49)])), (b 1, .inl (cB, 200, .inl ta))]) hP hD [0, 1] (by decide) rfl
            have hK9 := hK.sub (tys' := [(cB, .byte)]) [0] rfl
            exact W.vret hx hb hr (fun t ht hW => ⟨⟨((k + j), (nI k), 2, td), rfl, ⟨k, by omega, by omega, rfl, ib, Or.inr (Or.inr (Or.inl ⟨by omega, hs2, rfl, j, zz_pos1 hs2 (by rw [hce _ (by omega)]; decide), rfl, by omega, ij2, (by rw [hce _ (by omega)]; decide), it⟩))⟩, by rw [ht]; exact hP9, va_K.moved hW.alike hK9, hD9⟩, hS.F ht⟩) hS.2.2 dX8_next_319
          · have zc_8 := c_8
            rw [Int32.le_iff_toInt_le] at zc_8
            try rw [zz_toInt (k + j) (by omega)] at zc_8
            try rw [zz_toInt ml (by omega)] at zc_8
            refine lv_aload_n hx hb dX8_next_219 rfl (lv_at hl 0 rfl) ?_
            refine va_get (D := (dC, dI)) (ci := 8) (v := .ref (b 1)) (C := RX8) (T := TX8) (N := 49) hx hb hw zz_inX8 hown hK hP 0 rfl rfl 0 (by decide) (hw _ tw_191) (fun _ h9 => h9) rfl dX8_next_220 ?_
            refine lv_aload_n hx hb dX8_next_223 rfl (lv_at hl 0 rfl) ?_
            refine va_get (D := (dC, dI)) (ci := 8) (v := .int (nI (k + j))) (C := RX8) (T := TX8) (N := 49) hx hb hw zz_inX8 hown hK hP 0 rfl rfl 2 (by decide) (hw _ tw_296) (fun _ h9 => h9) rfl dX8_next_224 ?_
            refine va_bald hx hb hK hP 1 0 rfl rfl (vp_in_iff.mpr (by rw [zz_toInt (k + j) (by omega)]; constructor <;> omega)) dX8_next_227 ?_
            refine zz_seti (ta (k + j)) (congrArg ta (zz_cl (by omega))) ?_
            refine lv_i2l (v := Int32.toInt64 (ta (k + j))) hx hb dX8_next_228 rfl ?_
            refine lv_ldc2 (v := 48) hx hb hown (hw _ tw_300) dX8_next_229 ?_
            refine zz_setl (Int32.toInt64 48) (by decide) ?_
            refine lv_ldc2 (v := 57) hx hb hown (hw _ tw_301) dX8_next_232 ?_
            refine zz_setl (Int32.toInt64 57) (by decide) ?_
            obtain ⟨hPc, hDc⟩ := zz_sub2 (ws' := []) hP hD [] (by decide) rfl
            have hKc := hK.sub (tys' := []) [] rfl
            have hFc := zz_free0 hS hA
            refine va_calli (va_runS (As := [.long (Int32.toInt64 (ta (k + j))), .long (Int32.toInt64 48), .long (Int32.toInt64 57)]) (rest := []) ⟨hx, hb, hml, hown, hw⟩ (k_in l dC dI (ta (k + j)) 48 57 H.size) ⟨callB_of 3 hw (zz_good tw_183) rfl rfl rfl (hw _ tw_184) (hw _ tw_185) (by decide +kernel) ⟨Nat.le_of_ble_eq_true rfl, Nat.le_of_ble_eq_true rfl⟩, (hw _ tw_186)⟩ ⟨zz_blind, zz_pre hPc hKc hDc hN⟩ rfl rfl hl.1 rfl (lv_room (Nat.le_of_ble_eq_true rfl)) dX8_next_235 ⟨Nat.le_of_ble_eq_true rfl, Nat.le_of_ble_eq_true rfl⟩) hS (fun q _ h => hFc q h) hFc (fun r_9 u_9 t H1 locs ht hvm e_9 hB hz1 hk1 hS => ?_)
            try dsimp only at e_9
            have hP := zz_keep hP hk1
            clear hk1 hB ht hvm
            generalize H1 = H at hP hS ⊢
            refine lv_if_eq (tgt := 319) hx hb dX8_next_238 (by decide) (fun c_10 => ?_) (fun c_10 => ?_)
            · have zc_10 := c_10
              rw [e_9, zz_in0, Int32.le_iff_toInt_le, Int32.le_iff_toInt_le] at zc_10
              try rw [show (48 : Int32).toInt = 48 from by decide] at zc_10
              try rw [show (57 : Int32).toInt = 57 from by decide] at zc_10
              obtain ⟨hP9, hD9⟩ := zz_sub2 (ws' := [(b 0, .inr (8, [.ref (b 1), .int (nI mt), .int (nI (k + j)), .int (nI k), .int 2, .int td, .int wr, .int wa, .int (gg 8), .int (gg 9), .ref (b 11), .ref (b 12), .ref (b 13), .int (nI mc), .int (nI mh), .ref (b 16), .ref (b 17), .ref (b 18), .ref (b 19), .ref (b 20), .ref (b 21), .ref (b 22), .ref (b 23), .ref (b 24), .int (nI mf), .ref (b 26), .ref (b 27), .ref (b 28), .ref (b 29), .ref (b 30), .ref (b 31), .ref (b 32), .int (gg 32), .int (nI md), .ref (b 35), .ref (b 36), .ref (b 37), .ref (b 38), .ref (b 39), .ref (b 40), .int (gg 40), .ref (b 42), .ref (b 43), .ref (b 44), .int (gg 44), .ref (b 46), .ref (b 47), .int (gg 47), .ref (b 49)])), (b 1, .inl (cB, 200, .inl ta))]) hP hD [0, 1] (by decide) rfl
              have hK9 := hK.sub (tys' := [(cB, .byte)]) [0] rfl
              exact W.vret hx hb hr (fun t ht hW => ⟨⟨((k + j), (nI k), 2, td), rfl, ⟨k, by omega, by omega, rfl, ib, Or.inr (Or.inr (Or.inl ⟨by omega, hs2, rfl, j, zz_pos1 hs2 (fun h9 => absurd ((zz_by2 (hcs (k + j) (by omega))).mp h9) (by omega)), rfl, by omega, ij2, (fun h9 => absurd ((zz_by2 (hcs (k + j) (by omega))).mp h9) (by omega)), it⟩))⟩, by rw [ht]; exact hP9, va_K.moved hW.alike hK9, hD9⟩, hS.F ht⟩) hS.2.2 dX8_next_319
            · have zc_10 := c_10
              rw [e_9, zz_in0, Int32.le_iff_toInt_le, Int32.le_iff_toInt_le] at zc_10
              try rw [show (48 : Int32).toInt = 48 from by decide] at zc_10
              try rw [show (57 : Int32).toInt = 57 from by decide] at zc_10
              have hsj : zz_so (cs (k + j)) = 2 := (zz_by2 (hcs (k + j) (by omega))).mpr (by omega)
              refine lv_aload_n hx hb dX8_next_241 rfl (lv_at hl 0 rfl) ?_
              refine lv_aload_n hx hb dX8_next_242 rfl (lv_at hl 0 rfl) ?_
              refine va_get (D := (dC, dI)) (ci := 8) (v := .int td) (C := RX8) (T := TX8) (N := 49) hx hb hw zz_inX8 hown hK hP 0 rfl rfl 5 (by decide) (hw _ tw_303) (fun _ h9 => h9) rfl dX8_next_243 ?_
              refine lv_ldc (v := 99999) hx hb hown (hw _ tw_304) dX8_next_246 ?_
              refine lv_icmp_le (tgt := 258) hx hb dX8_next_248 (by decide) (fun c_11 => ?_) (fun c_11 => ?_)
              · have zc_11 := c_11
                rw [Int32.le_iff_toInt_le] at zc_11
                try rw [show (99999 : Int32).toInt = 99999 from by decide] at zc_11
                refine lv_bipush (v := 10) hx hb dX8_next_258 (by decide) ?_
                refine lv_aload_n hx hb dX8_next_260 rfl (lv_at hl 0 rfl) ?_
                refine va_get (D := (dC, dI)) (ci := 8) (v := .int td) (C := RX8) (T := TX8) (N := 49) hx hb hw zz_inX8 hown hK hP 0 rfl rfl 5 (by decide) (hw _ tw_303) (fun _ h9 => h9) rfl dX8_next_261 ?_
                refine lv_imul hx hb dX8_next_264 ?_
                refine lv_aload_n hx hb dX8_next_265 rfl (lv_at hl 0 rfl) ?_
                refine va_get (D := (dC, dI)) (ci := 8) (v := .ref (b 1)) (C := RX8) (T := TX8) (N := 49) hx hb hw zz_inX8 hown hK hP 0 rfl rfl 0 (by decide) (hw _ tw_191) (fun _ h9 => h9) rfl dX8_next_266 ?_
                refine lv_aload_n hx hb dX8_next_269 rfl (lv_at hl 0 rfl) ?_
                refine va_get (D := (dC, dI)) (ci := 8) (v := .int (nI (k + j))) (C := RX8) (T := TX8) (N := 49) hx hb hw zz_inX8 hown hK hP 0 rfl rfl 2 (by decide) (hw _ tw_296) (fun _ h9 => h9) rfl dX8_next_270 ?_
                refine va_bald hx hb hK hP 1 0 rfl rfl (vp_in_iff.mpr (by rw [zz_toInt (k + j) (by omega)]; constructor <;> omega)) dX8_next_273 ?_
                refine zz_seti (ta (k + j)) (congrArg ta (zz_cl (by omega))) ?_
                refine lv_iadd hx hb dX8_next_274 ?_
                refine lv_bipush (v := 48) hx hb dX8_next_275 (by decide) ?_
                refine lv_isub hx hb dX8_next_277 ?_
                refine va_put (D := (dC, dI)) (ci := 8) (v := .int (((10 * td) + (ta (k + j))) - 48)) (ty := .int) (C := RX8) (T := TX8) (N := 49) hx hb hw zz_inX8 tyX8 tyX8_ok nmX8 hown hK hP hD hS 0 rfl rfl 5 (by decide) (hw _ tw_303) (fun _ h9 => h9) rfl (by decide +kernel) rfl rfl (Nat.le_of_ble_eq_true rfl) dX8_next_278 (fun H locs hP hD hS => ?_)
                obtain ⟨hP, hD⟩ := zz_ty (D := (dC, dI)) (cl := vwCl) (A := A) (H := H) [(b 0, .inr (8, [.ref (b 1), .int (nI mt), .int (nI (k + j)), .int (nI k), .int 2, .int (((10 * td) + (ta (k + j))) - 48), .int wr, .int wa, .int (gg 8), .int (gg 9), .ref (b 11), .ref (b 12), .ref (b 13), .int (nI mc), .int (nI mh), .ref (b 16), .ref (b 17), .ref (b 18), .ref (b 19), .ref (b 20), .ref (b 21), .ref (b 22), .ref (b 23), .ref (b 24), .int (nI mf), .ref (b 26), .ref (b 27), .ref (b 28), .ref (b 29), .ref (b 30), .ref (b 31), .ref (b 32), .int (gg 32), .int (nI md), .ref (b 35), .ref (b 36), .ref (b 37), .ref (b 38), .ref (b 39), .ref (b 40), .int (gg 40), .ref (b 42), .ref (b 43), .ref (b 44), .int (gg 44), .ref (b 46), .ref (b 47), .int (gg 47), .ref (b 49)])), (b 1, .inl (cB, 200, .inl ta))] hP hD rfl
                refine lv_aload_n hx hb dX8_next_281 rfl (lv_at hl 0 rfl) ?_
                refine lv_dup hx hb dX8_next_282 rfl ?_
                refine va_get (D := (dC, dI)) (ci := 8) (v := .int (nI (k + j))) (C := RX8) (T := TX8) (N := 49) hx hb hw zz_inX8 hown hK hP 0 rfl rfl 2 (by decide) (hw _ tw_296) (fun _ h9 => h9) rfl dX8_next_283 ?_
                refine lv_iconst (v := 1) hx hb dX8_next_286 (by decide) ?_
                refine lv_iadd hx hb dX8_next_287 ?_
                refine zz_seti (nI ((k + j) + 1)) (nI_1 _) ?_
                refine va_put (D := (dC, dI)) (ci := 8) (v := .int (nI ((k + j) + 1))) (ty := .int) (C := RX8) (T := TX8) (N := 49) hx hb hw zz_inX8 tyX8 tyX8_ok nmX8 hown hK hP hD hS 0 rfl rfl 2 (by decide) (hw _ tw_296) (fun _ h9 => h9) rfl (by decide +kernel) rfl rfl (Nat.le_of_ble_eq_true rfl) dX8_next_288 (fun H locs hP hD hS => ?_)
                obtain ⟨hP, hD⟩ := zz_ty (D := (dC, dI)) (cl := vwCl) (A := A) (H := H) [(b 0, .inr (8, [.ref (b 1), .int (nI mt), .int (nI ((k + j) + 1)), .int (nI k), .int 2, .int (((10 * td) + (ta (k + j))) - 48), .int wr, .int wa, .int (gg 8), .int (gg 9), .ref (b 11), .ref (b 12), .ref (b 13), .int (nI mc), .int (nI mh), .ref (b 16), .ref (b 17), .ref (b 18), .ref (b 19), .ref (b 20), .ref (b 21), .ref (b 22), .ref (b 23), .ref (b 24), .int (nI mf), .ref (b 26), .ref (b 27), .ref (b 28), .ref (b 29), .ref (b 30), .ref (b 31), .ref (b 32), .int (gg 32), .int (nI md), .ref (b 35), .ref (b 36), .ref (b 37), .ref (b 38), .ref (b 39), .ref (b 40), .int (gg 40), .ref (b 42), .ref (b 43), .ref (b 44), .int (gg 44), .ref (b 46), .ref (b 47), .int (gg 47), .ref (b 49)])), (b 1, .inl (cB, 200, .inl ta))] hP hD rfl
                refine lv_goto (tgt := 211) hx hb dX8_next_291 (by decide) ?_
                exact ih_211 ((j + 1), (((10 * td) + (ta (k + j))) - 48)) ⟨by omega, zz_run_ext ij2 hsj, (by have h8 := zz_tn_step it (by omega) hsj; rw [zz_by_eq (hcs _ (by omega)) (Or.inr hsj)] at h8; exact h8)⟩ (show ml - (k + (j + 1)) < ml - (k + j) from by omega) _ _ _ (hP.sub [0, 1] rfl) (hD.sub [0, 1] (by decide) rfl) hS (lv_sub hl [0, 1, 2] rfl)
              · have zc_11 := c_11
                rw [Int32.le_iff_toInt_le] at zc_11
                try rw [show (99999 : Int32).toInt = 99999 from by decide] at zc_11
                refine lv_aload_n hx hb dX8_next_251 rfl (lv_at hl 0 rfl) ?_
                refine va_get (D := (dC, dI)) (ci := 8) (v := .int td) (C := RX8) (T := TX8) (N := 49) hx hb hw zz_inX8 hown hK hP 0 rfl rfl 5 (by decide) (hw _ tw_303) (fun _ h9 => h9) rfl dX8_next_252 ?_
                refine lv_goto (tgt := 278) hx hb dX8_next_255 (by decide) ?_
                refine va_put (D := (dC, dI)) (ci := 8) (v := .int td) (ty := .int) (C := RX8) (T := TX8) (N := 49) hx hb hw zz_inX8 tyX8 tyX8_ok nmX8 hown hK hP hD hS 0 rfl rfl 5 (by decide) (hw _ tw_303) (fun _ h9 => h9) rfl (by decide +kernel) rfl rfl (Nat.le_of_ble_eq_true rfl) dX8_next_278 (fun H locs hP hD hS => ?_)
                obtain ⟨hP, hD⟩ := zz_ty (D := (dC, dI)) (cl := vwCl) (A := A) (H := H) [(b 0, .inr (8, [.ref (b 1), .int (nI mt), .int (nI (k + j)), .int (nI k), .int 2, .int td, .int wr, .int wa, .int (gg 8), .int (gg 9), .ref (b 11), .ref (b 12), .ref (b 13), .int (nI mc), .int (nI mh), .ref (b 16), .ref (b 17), .ref (b 18), .ref (b 19), .ref (b 20), .ref (b 21), .ref (b 22), .ref (b 23), .ref (b 24), .int (nI mf), .ref (b 26), .ref (b 27), .ref (b 28), .ref (b 29), .ref (b 30), .ref (b 31), .ref (b 32), .int (gg 32), .int (nI md), .ref (b 35), .ref (b 36), .ref (b 37), .ref (b 38), .ref (b 39), .ref (b 40), .int (gg 40), .ref (b 42), .ref (b 43), .ref (b 44), .int (gg 44), .ref (b 46), .ref (b 47), .int (gg 47), .ref (b 49)])), (b 1, .inl (cB, 200, .inl ta))] hP hD rfl
                refine lv_aload_n hx hb dX8_next_281 rfl (lv_at hl 0 rfl) ?_
                refine lv_dup hx hb dX8_next_282 rfl ?_
                refine va_get (D := (dC, dI)) (ci := 8) (v := .int (nI (k + j))) (C := RX8) (T := TX8) (N := 49) hx hb hw zz_inX8 hown hK hP 0 rfl rfl 2 (by decide) (hw _ tw_296) (fun _ h9 => h9) rfl dX8_next_283 ?_
                refine lv_iconst (v := 1) hx hb dX8_next_286 (by decide) ?_
                refine lv_iadd hx hb dX8_next_287 ?_
                refine zz_seti (nI ((k + j) + 1)) (nI_1 _) ?_
                refine va_put (D := (dC, dI)) (ci := 8) (v := .int (nI ((k + j) + 1))) (ty := .int) (C := RX8) (T := TX8) (N := 49) hx hb hw zz_inX8 tyX8 tyX8_ok nmX8 hown hK hP hD hS 0 rfl rfl 2 (by decide) (hw _ tw_296) (fun _ h9 => h9) rfl (by decide +kernel) rfl rfl (Nat.le_of_ble_eq_true rfl) dX8_next_288 (fun H locs hP hD hS => ?_)
                obtain ⟨hP, hD⟩ := zz_ty (D := (dC, dI)) (cl := vwCl) (A := A) (H := H) [(b 0, .inr (8, [.ref (b 1), .int (nI mt), .int (nI ((k + j) + 1)), .int (nI k), .int 2, .int td, .int wr, .int wa, .int (gg 8), .int (gg 9), .ref (b 11), .ref (b 12), .ref (b 13), .int (nI mc), .int (nI mh), .ref (b 16), .ref (b 17), .ref (b 18), .ref (b 19), .ref (b 20), .ref (b 21), .ref (b 22), .ref (b 23), .ref (b 24), .int (nI mf), .ref (b 26), .ref (b 27), .ref (b 28), .ref (b 29), .ref (b 30), .ref (b 31), .ref (b 32), .int (gg 32), .int (nI md), .ref (b 35), .ref (b 36), .ref (b 37), .ref (b 38), .ref (b 39), .ref (b 40), .int (gg 40), .ref (b 42), .ref (b 43), .ref (b 44), .int (gg 44), .ref (b 46), .ref (b 47), .int (gg 47), .ref (b 49)])), (b 1, .inl (cB, 200, .inl ta))] hP hD rfl
                refine lv_goto (tgt := 211) hx hb dX8_next_291 (by decide) ?_
                exact ih_211 ((j + 1), td) ⟨by omega, zz_run_ext ij2 hsj, zz_tn_keep it (by omega) hsj⟩ (show ml - (k + (j + 1)) < ml - (k + j) from by omega) _ _ _ (hP.sub [0, 1] rfl) (hD.sub [0, 1] (by decide) rfl) hS (lv_sub hl [0, 1, 2] rfl)
      · have zc_4 := c_4
        rw [← Int32.toInt_inj] at zc_4
        try rw [show (0 : Int32).toInt = 0 from by decide] at zc_4
        have hs1 : zz_so (cs k) = 1 := (zz_by1 (hcs k (by omega))).mpr (zz_il1 e_3 c_4)
        refine lv_lconst (v := Int32.toInt64 0) hx hb dX8_next_74 (by decide) ?_
        refine lv_lstore_n (lv' := [(3, .long (Int32.toInt64 0)), (2, .int (ta k)), (0, .ref (b 0)), (1, .int (nI ml))]) hx hb dX8_next_75 rfl hl (by decide) rfl (fun ls hl => ?_)
        refine lv_iconst (v := 0) hx hb dX8_next_76 (by decide) ?_
        refine lv_istore (lv' := [(5, .int 0), (3, .long (Int32.toInt64 0)), (2, .int (ta k)), (0, .ref (b 0)), (1, .int (nI ml))]) hx hb dX8_next_77 hl (by decide) rfl (fun ls hl => ?_)
        refine zz_loopS (fun (u : (Nat) × (Int64)) => match u with | (j, y) => [(b 0, .inr (8, [.ref (b 1), .int (nI mt), .int (nI (k + j)), .int (nI k), .int so, .int tl, .int wr, .int wa, .int (gg 8), .int (gg 9), .ref (b 11), .ref (b 12), .ref (b 13), .int (nI mc), .int (nI mh), .ref (b 16), .ref (b 17), .ref (b 18), .ref (b 19), .ref (b 20), .ref (b 21), .ref (b 22), .ref (b 23), .ref (b 24), .int (nI mf), .ref (b 26), .ref (b 27), .ref (b 28), .ref (b 29), .ref (b 30), .ref (b 31), .ref (b 32), .int (gg 32), .int (nI md), .ref (b 35), .ref (b 36), .ref (b 37), .ref (b 38), .ref (b 39), .ref (b 40), .int (gg 40), .ref (b 42), .ref (b 43), .ref (b 44), .int (gg 44), .ref (b 46), .ref (b 47), .int (gg 47), .ref (b 49)])), (b 1, .inl (cB, 200, .inl ta))]) (fun (u : (Nat) × (Int64)) => match u with | (j, y) => [(0, .ref (b 0)), (1, .int (nI ml)), (2, .int (ta k)), (3, .long y), (5, .int (nI j))]) (fun (u : (Nat) × (Int64)) => match u with | (j, y) => k + j ≤ ml ∧ zz_run cs 1 k j ∧ (j ≤ 8 → Int64.toInt y = zz_cd cs k j)) (fun (u : (Nat) × (Int64)) => match u with | (j, y) => ml - (k + j)) (fun u hI H locs ls hP hD hS hl ih_79 => ?_) (0, Int32.toInt64 0) ⟨by omega, (fun i hi => absurd hi (by omega)), fun _ => by rw [zz_cd]; decide⟩ _ _ _ (hP.sub [0, 1] rfl) (hD.sub [0, 1] (by decide) rfl) hS (lv_sub hl [3, 4, 2, 1, 0] rfl)
        obtain ⟨j, y⟩ := u
        obtain ⟨hP, hD⟩ := zz_ty (D := (dC, dI)) (cl := vwCl) (A := A) (H := H) [(b 0, .inr (8, [.ref (b 1), .int (nI mt), .int (nI (k + j)), .int (nI k), .int so, .int tl, .int wr, .int wa, .int (gg 8), .int (gg 9), .ref (b 11), .ref (b 12), .ref (b 13), .int (nI mc), .int (nI mh), .ref (b 16), .ref (b 17), .ref (b 18), .ref (b 19), .ref (b 20), .ref (b 21), .ref (b 22), .ref (b 23), .ref (b 24), .int (nI mf), .ref (b 26), .ref (b 27), .ref (b 28), .ref (b 29), .ref (b 30), .ref (b 31), .ref (b 32), .int (gg 32), .int (nI md), .ref (b 35), .ref (b 36), .ref (b 37), .ref (b 38), .ref (b 39), .ref (b 40), .int (gg 40), .ref (b 42), .ref (b 43), .ref (b 44), .int (gg 44), .ref (b 46), .ref (b 47), .int (gg 47), .ref (b 49)])), (b 1, .inl (cB, 200, .inl ta))] hP hD rfl
        have hl : lv_has ls 6 [(0, .ref (b 0)), (1, .int (nI ml)), (2, .int (ta k)), (3, .long y), (5, .int (nI j))] := hl
        have hI : k + j ≤ ml ∧ zz_run cs 1 k j ∧ (j ≤ 8 → Int64.toInt y = zz_cd cs k j) := hI
        obtain ⟨ij0, ij2, iy⟩ := hI
        refine lv_aload_n hx hb dX8_next_79 rfl (lv_at hl 0 rfl) ?_
        refine va_get (D := (dC, dI)) (ci := 8) (v := .int (nI (k + j))) (C := RX8) (T := TX8) (N := 49) hx hb hw zz_inX8 hown hK hP 0 rfl rfl 2 (by decide) (hw _ tw_296) (fun _ h9 => h9) rfl dX8_next_80 ?_
        refine lv_iload_n hx hb dX8_next_83 rfl (lv_at hl 1 rfl) ?_
        refine lv_icmp_ge (tgt := 150) hx hb dX8_next_84 (by decide) (fun c_12 => ?_) (fun c_12 => ?_)
        · have zc_12 := c_12
          rw [Int32.le_iff_toInt_le] at zc_12
          try rw [zz_toInt (k + j) (by omega)] at zc_12
          try rw [zz_toInt ml (by omega)] at zc_12
          have hend : ¬ zz_so (cs (k + j)) = 1 := by rw [hce _ (by omega)]; decide
          have hj1 := zz_pos1 hs1 hend
          refine lv_aload_n hx hb dX8_next_150 rfl (lv_at hl 0 rfl) ?_
          refine lv_iload hx hb dX8_next_151 (lv_at hl 4 rfl) ?_
          refine lv_iconst (v := 5) hx hb dX8_next_153 (by decide) ?_
          refine lv_icmp_le (tgt := 161) hx hb dX8_next_154 (by decide) (fun c_13 => ?_) (fun c_13 => ?_)
          · have zc_13 := c_13
            rw [Int32.le_iff_toInt_le] at zc_13
            try rw [zz_toInt j (by omega)] at zc_13
            try rw [show (5 : Int32).toInt = 5 from by decide] at zc_13
            refine lv_lload_n hx hb dX8_next_161 rfl (lv_at hl 3 rfl) ?_
            obtain ⟨hPc, hDc⟩ := zz_sub2 (ws' := []) hP hD [] (by decide) rfl
            have hKc := hK.sub (tys' := []) [] rfl
            have hFc := zz_free0 hS hA
            refine va_calli (va_runS (As := [.long y]) (rest := [.ref (b 0)]) ⟨hx, hb, hml, hown, hw⟩ (mx_wordOf l dC dI y H.size) ⟨callB_of 1 hw (zz_good tw_305) rfl rfl rfl (hw _ tw_184) (hw _ tw_306) (by decide +kernel) ⟨Nat.le_of_ble_eq_true rfl, Nat.le_of_ble_eq_true rfl⟩, (hw _ tw_307)⟩ ⟨zz_blind, zz_pre hPc hKc hDc hN⟩ rfl rfl hl.1 rfl (lv_room (Nat.le_of_ble_eq_true rfl)) dX8_next_162 ⟨Nat.le_of_ble_eq_true rfl, Nat.le_of_ble_eq_true rfl⟩) hS (fun q _ h => hFc q h) hFc (fun r_14 u_14 t H1 locs ht hvm e_14 hB hz1 hk1 hS => ?_)
            try dsimp only at e_14
            have hP := zz_keep hP hk1
            clear hk1 hB ht hvm
            generalize H1 = H at hP hS ⊢
            rcases e_14 with ⟨er_14, hn_14⟩ | ⟨qw_14, hq_14, er_14, hc_14⟩
            · refine zz_seti (-1) er_14 ?_
              refine va_put (D := (dC, dI)) (ci := 8) (v := .int (-1)) (ty := .int) (C := RX8) (T := TX8) (N := 49) hx hb hw zz_inX8 tyX8 tyX8_ok nmX8 hown hK hP hD hS 0 rfl rfl 5 (by decide) (hw _ tw_303) (fun _ h9 => h9) rfl (by decide +kernel) rfl rfl (Nat.le_of_ble_eq_true rfl) dX8_next_165 (fun H locs hP hD hS => ?_)
              obtain ⟨hP, hD⟩ := zz_ty (D := (dC, dI)) (cl := vwCl) (A := A) (H := H) [(b 0, .inr (8, [.ref (b 1), .int (nI mt), .int (nI (k + j)), .int (nI k), .int so, .int (-1), .int wr, .int wa, .int (gg 8), .int (gg 9), .ref (b 11), .ref (b 12), .ref (b 13), .int (nI mc), .int (nI mh), .ref (b 16), .ref (b 17), .ref (b 18), .ref (b 19), .ref (b 20), .ref (b 21), .ref (b 22), .ref (b 23), .ref (b 24), .int (nI mf), .ref (b 26), .ref (b 27), .ref (b 28), .ref (b 29), .ref (b 30), .ref (b 31), .ref (b 32), .int (gg 32), .int (nI md), .ref (b 35), .ref (b 36), .ref (b 37), .ref (b 38), .ref (b 39), .ref (b 40), .int (gg 40), .ref (b 42), .ref (b 43), .ref (b 44), .int (gg 44), .ref (b 46), .ref (b 47), .int (gg 47), .ref (b 49)])), (b 1, .inl (cB, 200, .inl ta))] hP hD rfl
              refine lv_aload_n hx hb dX8_next_168 rfl (lv_at hl 0 rfl) ?_
              refine lv_aload_n hx hb dX8_next_169 rfl (lv_at hl 0 rfl) ?_
              refine va_get (D := (dC, dI)) (ci := 8) (v := .int (-1)) (C := RX8) (T := TX8) (N := 49) hx hb hw zz_inX8 hown hK hP 0 rfl rfl 5 (by decide) (hw _ tw_303) (fun _ h9 => h9) rfl dX8_next_170 ?_
              refine lv_if_ge (tgt := 180) hx hb dX8_next_173 (by decide) (fun c_9 => absurd c_9 (by decide)) (fun _ => ?_)
              refine lv_iconst (v := 4) hx hb dX8_next_176 (by decide) ?_
              refine lv_goto (tgt := 181) hx hb dX8_next_177 (by decide) ?_
              refine va_put (D := (dC, dI)) (ci := 8) (v := .int 4) (ty := .int) (C := RX8) (T := TX8) (N := 49) hx hb hw zz_inX8 tyX8 tyX8_ok nmX8 hown hK hP hD hS 0 rfl rfl 4 (by decide) (hw _ tw_302) (fun _ h9 => h9) rfl (by decide +kernel) rfl rfl (Nat.le_of_ble_eq_true rfl) dX8_next_181 (fun H locs hP hD hS => ?_)
              obtain ⟨hP, hD⟩ := zz_ty (D := (dC, dI)) (cl := vwCl) (A := A) (H := H) [(b 0, .inr (8, [.ref (b 1), .int (nI mt), .int (nI (k + j)), .int (nI k), .int 4, .int (-1), .int wr, .int wa, .int (gg 8), .int (gg 9), .ref (b 11), .ref (b 12), .ref (b 13), .int (nI mc), .int (nI mh), .ref (b 16), .ref (b 17), .ref (b 18), .ref (b 19), .ref (b 20), .ref (b 21), .ref (b 22), .ref (b 23), .ref (b 24), .int (nI mf), .ref (b 26), .ref (b 27), .ref (b 28), .ref (b 29), .ref (b 30), .ref (b 31), .ref (b 32), .int (gg 32), .int (nI md), .ref (b 35), .ref (b 36), .ref (b 37), .ref (b 38), .ref (b 39), .ref (b 40), .int (gg 40), .ref (b 42), .ref (b 43), .ref (b 44), .int (gg 44), .ref (b 46), .ref (b 47), .int (gg 47), .ref (b 49)])), (b 1, .inl (cB, 200, .inl ta))] hP hD rfl
              refine lv_goto (tgt := 319) hx hb dX8_next_184 (by decide) ?_
              obtain ⟨hP9, hD9⟩ := zz_sub2 (ws' := [(b 0, .inr (8, [.ref (b 1), .int (nI mt), .int (nI (k + j)), .int (nI k), .int 4, .int (-1), .int wr, .int wa, .int (gg 8), .int (gg 9), .ref (b 11), .ref (b 12), .ref (b 13), .int (nI mc), .int (nI mh), .ref (b 16), .ref (b 17), .ref (b 18), .ref (b 19), .ref (b 20), .ref (b 21), .ref (b 22), .ref (b 23), .ref (b 24), .int (nI mf), .ref (b 26), .ref (b 27), .ref (b 28), .ref (b 29), .ref (b 30), .ref (b 31), .ref (b 32), .int (gg 32), .int (nI md), .ref (b 35), .ref (b 36), .ref (b 37), .ref (b 38), .ref (b 39), .ref (b 40), .int (gg 40), .ref (b 42), .ref (b 43), .ref (b 44), .int (gg 44), .ref (b 46), .ref (b 47), .int (gg 47), .ref (b 49)])), (b 1, .inl (cB, 200, .inl ta))]) hP hD [0, 1] (by decide) rfl
              have hK9 := hK.sub (tys' := [(cB, .byte)]) [0] rfl
              exact W.vret hx hb hr (fun t ht hW => ⟨⟨((k + j), (nI k), 4, (-1)), rfl, ⟨k, by omega, by omega, rfl, ib, Or.inr (Or.inl ⟨by omega, hs1, ⟨j, hj1, rfl, by omega, ij2, hend⟩, Or.inl ⟨zz_wd_no ij2 hend (fun w hw => by rw [← iy (by omega)]; exact hn_14 w hw), rfl⟩⟩)⟩, by rw [ht]; exact hP9, va_K.moved hW.alike hK9, hD9⟩, hS.F ht⟩) hS.2.2 dX8_next_319
            · refine zz_seti (nI qw_14) er_14 ?_
              refine va_put (D := (dC, dI)) (ci := 8) (v := .int (nI qw_14)) (ty := .int) (C := RX8) (T := TX8) (N := 49) hx hb hw zz_inX8 tyX8 tyX8_ok nmX8 hown hK hP hD hS 0 rfl rfl 5 (by decide) (hw _ tw_303) (fun _ h9 => h9) rfl (by decide +kernel) rfl rfl (Nat.le_of_ble_eq_true rfl) dX8_next_165 (fun H locs hP hD hS => ?_)
              obtain ⟨hP, hD⟩ := zz_ty (D := (dC, dI)) (cl := vwCl) (A := A) (H := H) [(b 0, .inr (8, [.ref (b 1), .int (nI mt), .int (nI (k + j)), .int (nI k), .int so, .int (nI qw_14), .int wr, .int wa, .int (gg 8), .int (gg 9), .ref (b 11), .ref (b 12), .ref (b 13), .int (nI mc), .int (nI mh), .ref (b 16), .ref (b 17), .ref (b 18), .ref (b 19), .ref (b 20), .ref (b 21), .ref (b 22), .ref (b 23), .ref (b 24), .int (nI mf), .ref (b 26), .ref (b 27), .ref (b 28), .ref (b 29), .ref (b 30), .ref (b 31), .ref (b 32), .int (gg 32), .int (nI md), .ref (b 35), .ref (b 36), .ref (b 37), .ref (b 38), .ref (b 39), .ref (b 40), .int (gg 40), .ref (b 42), .ref (b 43), .ref (b 44), .int (gg 44), .ref (b 46), .ref (b 47), .int (gg 47), .ref (b 49)])), (b 1, .inl (cB, 200, .inl ta))] hP hD rfl
              refine lv_aload_n hx hb dX8_next_168 rfl (lv_at hl 0 rfl) ?_
              refine lv_aload_n hx hb dX8_next_169 rfl (lv_at hl 0 rfl) ?_
              refine va_get (D := (dC, dI)) (ci := 8) (v := .int (nI qw_14)) (C := RX8) (T := TX8) (N := 49) hx hb hw zz_inX8 hown hK hP 0 rfl rfl 5 (by decide) (hw _ tw_303) (fun _ h9 => h9) rfl dX8_next_170 ?_
              refine lv_if_ge (tgt := 180) hx hb dX8_next_173 (by decide) (fun _ => ?_) (fun c_15 => absurd c_15 (fun h9 => h9 (by rw [Int32.le_iff_toInt_le, zz_toInt qw_14 (by omega), show (0 : Int32).toInt = 0 from by decide]; omega)))
              refine lv_iconst (v := 1) hx hb dX8_next_180 (by decide) ?_
              refine va_put (D := (dC, dI)) (ci := 8) (v := .int 1) (ty := .int) (C := RX8) (T := TX8) (N := 49) hx hb hw zz_inX8 tyX8 tyX8_ok nmX8 hown hK hP hD hS 0 rfl rfl 4 (by decide) (hw _ tw_302) (fun _ h9 => h9) rfl (by decide +kernel) rfl rfl (Nat.le_of_ble_eq_true rfl) dX8_next_181 (fun H locs hP hD hS => ?_)
              obtain ⟨hP, hD⟩ := zz_ty (D := (dC, dI)) (cl := vwCl) (A := A) (H := H) [(b 0, .inr (8, [.ref (b 1), .int (nI mt), .int (nI (k + j)), .int (nI k), .int 1, .int (nI qw_14), .int wr, .int wa, .int (gg 8), .int (gg 9), .ref (b 11), .ref (b 12), .ref (b 13), .int (nI mc), .int (nI mh), .ref (b 16), .ref (b 17), .ref (b 18), .ref (b 19), .ref (b 20), .ref (b 21), .ref (b 22), .ref (b 23), .ref (b 24), .int (nI mf), .ref (b 26), .ref (b 27), .ref (b 28), .ref (b 29), .ref (b 30), .ref (b 31), .ref (b 32), .int (gg 32), .int (nI md), .ref (b 35), .ref (b 36), .ref (b 37), .ref (b 38), .ref (b 39), .ref (b 40), .int (gg 40), .ref (b 42), .ref (b 43), .ref (b 44), .int (gg 44), .ref (b 46), .ref (b 47), .int (gg 47), .ref (b 49)])), (b 1, .inl (cB, 200, .inl ta))] hP hD rfl
              refine lv_goto (tgt := 319) hx hb dX8_next_184 (by decide) ?_
              obtain ⟨hP9, hD9⟩ := zz_sub2 (ws' := [(b 0, .inr (8, [.ref (b 1), .int (nI mt), .int (nI (k + j)), .int (nI k), .int 1, .int (nI qw_14), .int wr, .int wa, .int (gg 8), .int (gg 9), .ref (b 11), .ref (b 12), .ref (b 13), .int (nI mc), .int (nI mh), .ref (b 16), .ref (b 17), .ref (b 18), .ref (b 19), .ref (b 20), .ref (b 21), .ref (b 22), .ref (b 23), .ref (b 24), .int (nI mf), .ref (b 26), .ref (b 27), .ref (b 28), .ref (b 29), .ref (b 30), .ref (b 31), .ref (b 32), .int (gg 32), .int (nI md), .ref (b 35), .ref (b 36), .ref (b 37), .ref (b 38), .ref (b 39), .ref (b 40), .int (gg 40), .ref (b 42), .ref (b 43), .ref (b 44), .int (gg 44), .ref (b 46), .ref (b 47), .int (gg 47), .ref (b 49)])), (b 1, .inl (cB, 200, .inl ta))]) hP hD [0, 1] (by decide) rfl
              have hK9 := hK.sub (tys' := [(cB, .byte)]) [0] rfl
              exact W.vret hx hb hr (fun t ht hW => ⟨⟨((k + j), (nI k), 1, (nI qw_14)), rfl, ⟨k, by omega, by omega, rfl, ib, Or.inr (Or.inl ⟨by omega, hs1, ⟨j, hj1, rfl, by omega, ij2, hend⟩, Or.inr ⟨qw_14, hq_14, zz_wd_hit hq_14 ij2 hend (by rw [← iy (by omega)]; exact hc_14), rfl, rfl⟩⟩)⟩, by rw [ht]; exact hP9, va_K.moved hW.alike hK9, hD9⟩, hS.F ht⟩) hS.2.2 dX8_next_319
          · have zc_13 := c_13
            rw [Int32.le_iff_toInt_le] at zc_13
            try rw [zz_toInt j (by omega)] at zc_13
            try rw [show (5 : Int32).toInt = 5 from by decide] at zc_13
            refine lv_iconst (v := (-1)) hx hb dX8_next_157 (by decide) ?_
            refine lv_goto (tgt := 165) hx hb dX8_next_158 (by decide) ?_
            refine va_put (D := (dC, dI)) (ci := 8) (v := .int (-1)) (ty := .int) (C := RX8) (T := TX8) (N := 49) hx hb hw zz_inX8 tyX8 tyX8_ok nmX8 hown hK hP hD hS 0 rfl rfl 5 (by decide) (hw _ tw_303) (fun _ h9 => h9) rfl (by decide +kernel) rfl rfl (Nat.le_of_ble_eq_true rfl) dX8_next_165 (fun H locs hP hD hS => ?_)
            obtain ⟨hP, hD⟩ := zz_ty (D := (dC, dI)) (cl := vwCl) (A := A) (H := H) [(b 0, .inr (8, [.ref (b 1), .int (nI mt), .int (nI (k + j)), .int (nI k), .int so, .int (-1), .int wr, .int wa, .int (gg 8), .int (gg 9), .ref (b 11), .ref (b 12), .ref (b 13), .int (nI mc), .int (nI mh), .ref (b 16), .ref (b 17), .ref (b 18), .ref (b 19), .ref (b 20), .ref (b 21), .ref (b 22), .ref (b 23), .ref (b 24), .int (nI mf), .ref (b 26), .ref (b 27), .ref (b 28), .ref (b 29), .ref (b 30), .ref (b 31), .ref (b 32), .int (gg 32), .int (nI md), .ref (b 35), .ref (b 36), .ref (b 37), .ref (b 38), .ref (b 39), .ref (b 40), .int (gg 40), .ref (b 42), .ref (b 43), .ref (b 44), .int (gg 44), .ref (b 46), .ref (b 47), .int (gg 47), .ref (b 49)])), (b 1, .inl (cB, 200, .inl ta))] hP hD rfl
            refine lv_aload_n hx hb dX8_next_168 rfl (lv_at hl 0 rfl) ?_
            refine lv_aload_n hx hb dX8_next_169 rfl (lv_at hl 0 rfl) ?_
            refine va_get (D := (dC, dI)) (ci := 8) (v := .int (-1)) (C := RX8) (T := TX8) (N := 49) hx hb hw zz_inX8 hown hK hP 0 rfl rfl 5 (by decide) (hw _ tw_303) (fun _ h9 => h9) rfl dX8_next_170 ?_
            refine lv_if_ge (tgt := 180) hx hb dX8_next_173 (by decide) (fun c_9 => absurd c_9 (by decide)) (fun _ => ?_)
            refine lv_iconst (v := 4) hx hb dX8_next_176 (by decide) ?_
            refine lv_goto (tgt := 181) hx hb dX8_next_177 (by decide) ?_
            refine va_put (D := (dC, dI)) (ci := 8) (v := .int 4) (ty := .int) (C := RX8) (T := TX8) (N := 49) hx hb hw zz_inX8 tyX8 tyX8_ok nmX8 hown hK hP hD hS 0 rfl rfl 4 (by decide) (hw _ tw_302) (fun _ h9 => h9) rfl (by decide +kernel) rfl rfl (Nat.le_of_ble_eq_true rfl) dX8_next_181 (fun H locs hP hD hS => ?_)
            obtain ⟨hP, hD⟩ := zz_ty (D := (dC, dI)) (cl := vwCl) (A := A) (H := H) [(b 0, .inr (8, [.ref (b 1), .int (nI mt), .int (nI (k + j)), .int (nI k), .int 4, .int (-1), .int wr, .int wa, .int (gg 8), .int (gg 9), .ref (b 11), .ref (b 12), .ref (b 13), .int (nI mc), .int (nI mh), .ref (b 16), .ref (b 17), .ref (b 18), .ref (b 19), .ref (b 20), .ref (b 21), .ref (b 22), .ref (b 23), .ref (b 24), .int (nI mf), .ref (b 26), .ref (b 27), .ref (b 28), .ref (b 29), .ref (b 30), .ref (b 31), .ref (b 32), .int (gg 32), .int (nI md), .ref (b 35), .ref (b 36), .ref (b 37), .ref (b 38), .ref (b 39), .ref (b 40), .int (gg 40), .ref (b 42), .ref (b 43), .ref (b 44), .int (gg 44), .ref (b 46), .ref (b 47), .int (gg 47), .ref (b 49)])), (b 1, .inl (cB, 200, .inl ta))] hP hD rfl
            refine lv_goto (tgt := 319) hx hb dX8_next_184 (by decide) ?_
            obtain ⟨hP9, hD9⟩ := zz_sub2 (ws' := [(b 0, .inr (8, [.ref (b 1), .int (nI mt), .int (nI (k + j)), .int (nI k), .int 4, .int (-1), .int wr, .int wa, .int (gg 8), .int (gg 9), .ref (b 11), .ref (b 12), .ref (b 13), .int (nI mc), .int (nI mh), .ref (b 16), .ref (b 17), .ref (b 18), .ref (b 19), .ref (b 20), .ref (b 21), .ref (b 22), .ref (b 23), .ref (b 24), .int (nI mf), .ref (b 26), .ref (b 27), .ref (b 28), .ref (b 29), .ref (b 30), .ref (b 31), .ref (b 32), .int (gg 32), .int (nI md), .ref (b 35), .ref (b 36), .ref (b 37), .ref (b 38), .ref (b 39), .ref (b 40), .int (gg 40), .ref (b 42), .ref (b 43), .ref (b 44), .int (gg 44), .ref (b 46), .ref (b 47), .int (gg 47), .ref (b 49)])), (b 1, .inl (cB, 200, .inl ta))]) hP hD [0, 1] (by decide) rfl
            have hK9 := hK.sub (tys' := [(cB, .byte)]) [0] rfl
            exact W.vret hx hb hr (fun t ht hW => ⟨⟨((k + j), (nI k), 4, (-1)), rfl, ⟨k, by omega, by omega, rfl, ib, Or.inr (Or.inl ⟨by omega, hs1, ⟨j, hj1, rfl, by omega, ij2, hend⟩, Or.inl ⟨zz_wd_long ij2 hend (by omega), rfl⟩⟩)⟩, by rw [ht]; exact hP9, va_K.moved hW.alike hK9, hD9⟩, hS.F ht⟩) hS.2.2 dX8_next_319
        · have zc_12 := c_12
          rw [Int32.le_iff_toInt_le] at zc_12
          try rw [zz_toInt (k + j) (by omega)] at zc_12
          try rw [zz_toInt ml (by omega)] at zc_12
          refine lv_aload_n hx hb dX8_next_87 rfl (lv_at hl 0 rfl) ?_
          refine va_get (D := (dC, dI)) (ci := 8) (v := .ref (b 1)) (C := RX8) (T := TX8) (N := 49) hx hb hw zz_inX8 hown hK hP 0 rfl rfl 0 (by decide) (hw _ tw_191) (fun _ h9 => h9) rfl dX8_next_88 ?_
          refine lv_aload_n hx hb dX8_next_91 rfl (lv_at hl 0 rfl) ?_
          refine va_get (D := (dC, dI)) (ci := 8) (v := .int (nI (k + j))) (C := RX8) (T := TX8) (N := 49) hx hb hw zz_inX8 hown hK hP 0 rfl rfl 2 (by decide) (hw _ tw_296) (fun _ h9 => h9) rfl dX8_next_92 ?_
          refine va_bald hx hb hK hP 1 0 rfl rfl (vp_in_iff.mpr (by rw [zz_toInt (k + j) (by omega)]; constructor <;> omega)) dX8_next_95 ?_
          refine zz_seti (ta (k + j)) (congrArg ta (zz_cl (by omega))) ?_
          obtain ⟨hPc, hDc⟩ := zz_sub2 (ws' := []) hP hD [] (by decide) rfl
          have hKc := hK.sub (tys' := []) [] rfl
          have hFc := zz_free0 hS hA
          refine va_calli (va_runS (As := [.int (ta (k + j))]) (rest := []) ⟨hx, hb, hml, hown, hw⟩ (m_isLetter l dC dI (ta (k + j)) H.size) ⟨callB_of 1 hw (zz_good tw_297) rfl rfl rfl (hw _ tw_184) (hw _ tw_298) (by decide +kernel) ⟨Nat.le_of_ble_eq_true rfl, Nat.le_of_ble_eq_true rfl⟩, (hw _ tw_299)⟩ ⟨zz_blind, zz_pre hPc hKc hDc hN⟩ rfl rfl hl.1 rfl (lv_room (Nat.le_of_ble_eq_true rfl)) dX8_next_96 ⟨Nat.le_of_ble_eq_true rfl, Nat.le_of_ble_eq_true rfl⟩) hS (fun q _ h => hFc q h) hFc (fun r_16 u_16 t H1 locs ht hvm e_16 hB hz1 hk1 hS => ?_)
          try dsimp only at e_16
          have hP := zz_keep hP hk1
          clear hk1 hB ht hvm
          generalize H1 = H at hP hS ⊢
          refine lv_if_eq (tgt := 150) hx hb dX8_next_99 (by decide) (fun c_17 => ?_) (fun c_17 => ?_)
          · have zc_17 := c_17
            rw [← Int32.toInt_inj] at zc_17
            try rw [show (0 : Int32).toInt = 0 from by decide] at zc_17
            have hend : ¬ zz_so (cs (k + j)) = 1 := fun h9 => absurd ((zz_by1 (hcs (k + j) (by omega))).mp h9) (zz_il0 e_16 c_17)
            have hj1 := zz_pos1 hs1 hend
            refine lv_aload_n hx hb dX8_next_150 rfl (lv_at hl 0 rfl) ?_
            refine lv_iload hx hb dX8_next_151 (lv_at hl 4 rfl) ?_
            refine lv_iconst (v := 5) hx hb dX8_next_153 (by decide) ?_
            refine lv_icmp_le (tgt := 161) hx hb dX8_next_154 (by decide) (fun c_18 => ?_) (fun c_18 => ?_)
            · have zc_18 := c_18
              rw [Int32.le_iff_toInt_le] at zc_18
              try rw [zz_toInt j (by omega)] at zc_18
              try rw [show (5 : Int32).toInt = 5 from by decide] at zc_18
              refine lv_lload_n hx hb dX8_next_161 rfl (lv_at hl 3 rfl) ?_
              obtain ⟨hPc, hDc⟩ := zz_sub2 (ws' := []) hP hD [] (by decide) rfl
              have hKc := hK.sub (tys' := []) [] rfl
              have hFc := zz_free0 hS hA
              refine va_calli (va_runS (As := [.long y]) (rest := [.ref (b 0)]) ⟨hx, hb, hml, hown, hw⟩ (mx_wordOf l dC dI y H.size) ⟨callB_of 1 hw (zz_good tw_305) rfl rfl rfl (hw _ tw_184) (hw _ tw_306) (by decide +kernel) ⟨Nat.le_of_ble_eq_true rfl, Nat.le_of_ble_eq_true rfl⟩, (hw _ tw_307)⟩ ⟨zz_blind, zz_pre hPc hKc hDc hN⟩ rfl rfl hl.1 rfl (lv_room (Nat.le_of_ble_eq_true rfl)) dX8_next_162 ⟨Nat.le_of_ble_eq_true rfl, Nat.le_of_ble_eq_true rfl⟩) hS (fun q _ h => hFc q h) hFc (fun r_19 u_19 t H1 locs ht hvm e_19 hB hz1 hk1 hS => ?_)
              try dsimp only at e_19
              have hP := zz_keep hP hk1
              clear hk1 hB ht hvm
              generalize H1 = H at hP hS ⊢
              rcases e_19 with ⟨er_19, hn_19⟩ | ⟨qw_19, hq_19, er_19, hc_19⟩
              · refine zz_seti (-1) er_19 ?_
                refine va_put (D := (dC, dI)) (ci := 8) (v := .int (-1)) (ty := .int) (C := RX8) (T := TX8) (N := 49) hx hb hw zz_inX8 tyX8 tyX8_ok nmX8 hown hK hP hD hS 0 rfl rfl 5 (by decide) (hw _ tw_303) (fun _ h9 => h9) rfl (by decide +kernel) rfl rfl (Nat.le_of_ble_eq_true rfl) dX8_next_165 (fun H locs hP hD hS => ?_)
                obtain ⟨hP, hD⟩ := zz_ty (D := (dC, dI)) (cl := vwCl) (A := A) (H := H) [(b 0, .inr (8, [.ref (b 1), .int (nI mt), .int (nI (k + j)), .int (nI k), .int so, .int (-1), .int wr, .int wa, .int (gg 8), .int (gg 9), .ref (b 11), .ref (b 12), .ref (b 13), .int (nI mc), .int (nI mh), .ref (b 16), .ref (b 17), .ref (b 18), .ref (b 19), .ref (b 20), .ref (b 21), .ref (b 22), .ref (b 23), .ref (b 24), .int (nI mf), .ref (b 26), .ref (b 27), .ref (b 28), .ref (b 29), .ref (b 30), .ref (b 31), .ref (b 32), .int (gg 32), .int (nI md), .ref (b 35), .ref (b 36), .ref (b 37), .ref (b 38), .ref (b 39), .ref (b 40), .int (gg 40), .ref (b 42), .ref (b 43), .ref (b 44), .int (gg 44), .ref (b 46), .ref (b 47), .int (gg 47), .ref (b 49)])), (b 1, .inl (cB, 200, .inl ta))] hP hD rfl
                refine lv_aload_n hx hb dX8_next_168 rfl (lv_at hl 0 rfl) ?_
                refine lv_aload_n hx hb dX8_next_169 rfl (lv_at hl 0 rfl) ?_
                refine va_get (D := (dC, dI)) (ci := 8) (v := .int (-1)) (C := RX8) (T := TX8) (N := 49) hx hb hw zz_inX8 hown hK hP 0 rfl rfl 5 (by decide) (hw _ tw_303) (fun _ h9 => h9) rfl dX8_next_170 ?_
                refine lv_if_ge (tgt := 180) hx hb dX8_next_173 (by decide) (fun c_9 => absurd c_9 (by decide)) (fun _ => ?_)
                refine lv_iconst (v := 4) hx hb dX8_next_176 (by decide) ?_
                refine lv_goto (tgt := 181) hx hb dX8_next_177 (by decide) ?_
                refine va_put (D := (dC, dI)) (ci := 8) (v := .int 4) (ty := .int) (C := RX8) (T := TX8) (N := 49) hx hb hw zz_inX8 tyX8 tyX8_ok nmX8 hown hK hP hD hS 0 rfl rfl 4 (by decide) (hw _ tw_302) (fun _ h9 => h9) rfl (by decide +kernel) rfl rfl (Nat.le_of_ble_eq_true rfl) dX8_next_181 (fun H locs hP hD hS => ?_)
                obtain ⟨hP, hD⟩ := zz_ty (D := (dC, dI)) (cl := vwCl) (A := A) (H := H) [(b 0, .inr (8, [.ref (b 1), .int (nI mt), .int (nI (k + j)), .int (nI k), .int 4, .int (-1), .int wr, .int wa, .int (gg 8), .int (gg 9), .ref (b 11), .ref (b 12), .ref (b 13), .int (nI mc), .int (nI mh), .ref (b 16), .ref (b 17), .ref (b 18), .ref (b 19), .ref (b 20), .ref (b 21), .ref (b 22), .ref (b 23), .ref (b 24), .int (nI mf), .ref (b 26), .ref (b 27), .ref (b 28), .ref (b 29), .ref (b 30), .ref (b 31), .ref (b 32), .int (gg 32), .int (nI md), .ref (b 35), .ref (b 36), .ref (b 37), .ref (b 38), .ref (b 39), .ref (b 40), .int (gg 40), .ref (b 42), .ref (b 43), .ref (b 44), .int (gg 44), .ref (b 46), .ref (b 47), .int (gg 47), .ref (b 49)])), (b 1, .inl (cB, 200, .inl ta))] hP hD rfl
                refine lv_goto (tgt := 319) hx hb dX8_next_184 (by decide) ?_
                obtain ⟨hP9, hD9⟩ := zz_sub2 (ws' := [(b 0, .inr (8, [.ref (b 1), .int (nI mt), .int (nI (k + j)), .int (nI k), .int 4, .int (-1), .int wr, .int wa, .int (gg 8), .int (gg 9), .ref (b 11), .ref (b 12), .ref (b 13), .int (nI mc), .int (nI mh), .ref (b 16), .ref (b 17), .ref (b 18), .ref (b 19), .ref (b 20), .ref (b 21), .ref (b 22), .ref (b 23), .ref (b 24), .int (nI mf), .ref (b 26), .ref (b 27), .ref (b 28), .ref (b 29), .ref (b 30), .ref (b 31), .ref (b 32), .int (gg 32), .int (nI md), .ref (b 35), .ref (b 36), .ref (b 37), .ref (b 38), .ref (b 39), .ref (b 40), .int (gg 40), .ref (b 42), .ref (b 43), .ref (b 44), .int (gg 44), .ref (b 46), .ref (b 47), .int (gg 47), .ref (b 49)])), (b 1, .inl (cB, 200, .inl ta))]) hP hD [0, 1] (by decide) rfl
                have hK9 := hK.sub (tys' := [(cB, .byte)]) [0] rfl
                exact W.vret hx hb hr (fun t ht hW => ⟨⟨((k + j), (nI k), 4, (-1)), rfl, ⟨k, by omega, by omega, rfl, ib, Or.inr (Or.inl ⟨by omega, hs1, ⟨j, hj1, rfl, by omega, ij2, hend⟩, Or.inl ⟨zz_wd_no ij2 hend (fun w hw => by rw [← iy (by omega)]; exact hn_19 w hw), rfl⟩⟩)⟩, by rw [ht]; exact hP9, va_K.moved hW.alike hK9, hD9⟩, hS.F ht⟩) hS.2.2 dX8_next_319
              · refine zz_seti (nI qw_19) er_19 ?_
                refine va_put (D := (dC, dI)) (ci := 8) (v := .int (nI qw_19)) (ty := .int) (C := RX8) (T := TX8) (N := 49) hx hb hw zz_inX8 tyX8 tyX8_ok nmX8 hown hK hP hD hS 0 rfl rfl 5 (by decide) (hw _ tw_303) (fun _ h9 => h9) rfl (by decide +kernel) rfl rfl (Nat.le_of_ble_eq_true rfl) dX8_next_165 (fun H locs hP hD hS => ?_)
                obtain ⟨hP, hD⟩ := zz_ty (D := (dC, dI)) (cl := vwCl) (A := A) (H := H) [(b 0, .inr (8, [.ref (b 1), .int (nI mt), .int (nI (k + j)), .int (nI k), .int so, .int (nI qw_19), .int wr, .int wa, .int (gg 8), .int (gg 9), .ref (b 11), .ref (b 12), .ref (b 13), .int (nI mc), .int (nI mh), .ref (b 16), .ref (b 17), .ref (b 18), .ref (b 19), .ref (b 20), .ref (b 21), .ref (b 22), .ref (b 23), .ref (b 24), .int (nI mf), .ref (b 26), .ref (b 27), .ref (b 28), .ref (b 29), .ref (b 30), .ref (b 31), .ref (b 32), .int (gg 32), .int (nI md), .ref (b 35), .ref (b 36), .ref (b 37), .ref (b 38), .ref (b 39), .ref (b 40), .int (gg 40), .ref (b 42), .ref (b 43), .ref (b 44), .int (gg 44), .ref (b 46), .ref (b 47), .int (gg 47), .ref (b 49)])), (b 1, .inl (cB, 200, .inl ta))] hP hD rfl
                refine lv_aload_n hx hb dX8_next_168 rfl (lv_at hl 0 rfl) ?_
                refine lv_aload_n hx hb dX8_next_169 rfl (lv_at hl 0 rfl) ?_
                refine va_get (D := (dC, dI)) (ci := 8) (v := .int (nI qw_19)) (C := RX8) (T := TX8) (N := 49) hx hb hw zz_inX8 hown hK hP 0 rfl rfl 5 (by decide) (hw _ tw_303) (fun _ h9 => h9) rfl dX8_next_170 ?_
                refine lv_if_ge (tgt := 180) hx hb dX8_next_173 (by decide) (fun _ => ?_) (fun c_20 => absurd c_20 (fun h9 => h9 (by rw [Int32.le_iff_toInt_le, zz_toInt qw_19 (by omega), show (0 : Int32).toInt = 0 from by decide]; omega)))
                refine lv_iconst (v := 1) hx hb dX8_next_180 (by decide) ?_
                refine va_put (D := (dC, dI)) (ci := 8) (v := .int 1) (ty := .int) (C := RX8) (T := TX8) (N := 49) hx hb hw zz_inX8 tyX8 tyX8_ok nmX8 hown hK hP hD hS 0 rfl rfl 4 (by decide) (hw _ tw_302) (fun _ h9 => h9) rfl (by decide +kernel) rfl rfl (Nat.le_of_ble_eq_true rfl) dX8_next_181 (fun H locs hP hD hS => ?_)
                obtain ⟨hP, hD⟩ := zz_ty (D := (dC, dI)) (cl := vwCl) (A := A) (H := H) [(b 0, .inr (8, [.ref (b 1), .int (nI mt), .int (nI (k + j)), .int (nI k), .int 1, .int (nI qw_19), .int wr, .int wa, .int (gg 8), .int (gg 9), .ref (b 11), .ref (b 12), .ref (b 13), .int (nI mc), .int (nI mh), .ref (b 16), .ref (b 17), .ref (b 18), .ref (b 19), .ref (b 20), .ref (b 21), .ref (b 22), .ref (b 23), .ref (b 24), .int (nI mf), .ref (b 26), .ref (b 27), .ref (b 28), .ref (b 29), .ref (b 30), .ref (b 31), .ref (b 32), .int (gg 32), .int (nI md), .ref (b 35), .ref (b 36), .ref (b 37), .ref (b 38), .ref (b 39), .ref (b 40), .int (gg 40), .ref (b 42), .ref (b 43), .ref (b 44), .int (gg 44), .ref (b 46), .ref (b 47), .int (gg 47), .ref (b 49)])), (b 1, .inl (cB, 200, .inl ta))] hP hD rfl
                refine lv_goto (tgt := 319) hx hb dX8_next_184 (by decide) ?_
                obtain ⟨hP9, hD9⟩ := zz_sub2 (ws' := [(b 0, .inr (8, [.ref (b 1), .int (nI mt), .int (nI (k + j)), .int (nI k), .int 1, .int (nI qw_19), .int wr, .int wa, .int (gg 8), .int (gg 9), .ref (b 11), .ref (b 12), .ref (b 13), .int (nI mc), .int (nI mh), .ref (b 16), .ref (b 17), .ref (b 18), .ref (b 19), .ref (b 20), .ref (b 21), .ref (b 22), .ref (b 23), .ref (b 24), .int (nI mf), .ref (b 26), .ref (b 27), .ref (b 28), .ref (b 29), .ref (b 30), .ref (b 31), .ref (b 32), .int (gg 32), .int (nI md), .ref (b 35), .ref (b 36), .ref (b 37), .ref (b 38), .ref (b 39), .ref (b 40), .int (gg 40), .ref (b 42), .ref (b 43), .ref (b 44), .int (gg 44), .ref (b 46), .ref (b 47), .int (gg 47), .ref (b 49)])), (b 1, .inl (cB, 200, .inl ta))]) hP hD [0, 1] (by decide) rfl
                have hK9 := hK.sub (tys' := [(cB, .byte)]) [0] rfl
                exact W.vret hx hb hr (fun t ht hW => ⟨⟨((k + j), (nI k), 1, (nI qw_19)), rfl, ⟨k, by omega, by omega, rfl, ib, Or.inr (Or.inl ⟨by omega, hs1, ⟨j, hj1, rfl, by omega, ij2, hend⟩, Or.inr ⟨qw_19, hq_19, zz_wd_hit hq_19 ij2 hend (by rw [← iy (by omega)]; exact hc_19), rfl, rfl⟩⟩)⟩, by rw [ht]; exact hP9, va_K.moved hW.alike hK9, hD9⟩, hS.F ht⟩) hS.2.2 dX8_next_319
            · have zc_18 := c_18
              rw [Int32.le_iff_toInt_le] at zc_18
              try rw [zz_toInt j (by omega)] at zc_18
              try rw [show (5 : Int32).toInt = 5 from by decide] at zc_18
              refine lv_iconst (v := (-1)) hx hb dX8_next_157 (by decide) ?_
              refine lv_goto (tgt := 165) hx hb dX8_next_158 (by decide) ?_
              refine va_put (D := (dC, dI)) (ci := 8) (v := .int (-1)) (ty := .int) (C := RX8) (T := TX8) (N := 49) hx hb hw zz_inX8 tyX8 tyX8_ok nmX8 hown hK hP hD hS 0 rfl rfl 5 (by decide) (hw _ tw_303) (fun _ h9 => h9) rfl (by decide +kernel) rfl rfl (Nat.le_of_ble_eq_true rfl) dX8_next_165 (fun H locs hP hD hS => ?_)
              obtain ⟨hP, hD⟩ := zz_ty (D := (dC, dI)) (cl := vwCl) (A := A) (H := H) [(b 0, .inr (8, [.ref (b 1), .int (nI mt), .int (nI (k + j)), .int (nI k), .int so, .int (-1), .int wr, .int wa, .int (gg 8), .int (gg 9), .ref (b 11), .ref (b 12), .ref (b 13), .int (nI mc), .int (nI mh), .ref (b 16), .ref (b 17), .ref (b 18), .ref (b 19), .ref (b 20), .ref (b 21), .ref (b 22), .ref (b 23), .ref (b 24), .int (nI mf), .ref (b 26), .ref (b 27), .ref (b 28), .ref (b 29), .ref (b 30), .ref (b 31), .ref (b 32), .int (gg 32), .int (nI md), .ref (b 35), .ref (b 36), .ref (b 37), .ref (b 38), .ref (b 39), .ref (b 40), .int (gg 40), .ref (b 42), .ref (b 43), .ref (b 44), .int (gg 44), .ref (b 46), .ref (b 47), .int (gg 47), .ref (b 49)])), (b 1, .inl (cB, 200, .inl ta))] hP hD rfl
              refine lv_aload_n hx hb dX8_next_168 rfl (lv_at hl 0 rfl) ?_
              refine lv_aload_n hx hb dX8_next_169 rfl (lv_at hl 0 rfl) ?_
              refine va_get (D := (dC, dI)) (ci := 8) (v := .int (-1)) (C := RX8) (T := TX8) (N := 49) hx hb hw zz_inX8 hown hK hP 0 rfl rfl 5 (by decide) (hw _ tw_303) (fun _ h9 => h9) rfl dX8_next_170 ?_
              refine lv_if_ge (tgt := 180) hx hb dX8_next_173 (by decide) (fun c_9 => absurd c_9 (by decide)) (fun _ => ?_)
              refine lv_iconst (v := 4) hx hb dX8_next_176 (by decide) ?_
              refine lv_goto (tgt := 181) hx hb dX8_next_177 (by decide) ?_
              refine va_put (D := (dC, dI)) (ci := 8) (v := .int 4) (ty := .int) (C := RX8) (T := TX8) (N := 49) hx hb hw zz_inX8 tyX8 tyX8_ok nmX8 hown hK hP hD hS 0 rfl rfl 4 (by decide) (hw _ tw_302) (fun _ h9 => h9) rfl (by decide +kernel) rfl rfl (Nat.le_of_ble_eq_true rfl) dX8_next_181 (fun H locs hP hD hS => ?_)
              obtain ⟨hP, hD⟩ := zz_ty (D := (dC, dI)) (cl := vwCl) (A := A) (H := H) [(b 0, .inr (8, [.ref (b 1), .int (nI mt), .int (nI (k + j)), .int (nI k), .int 4, .int (-1), .int wr, .int wa, .int (gg 8), .int (gg 9), .ref (b 11), .ref (b 12), .ref (b 13), .int (nI mc), .int (nI mh), .ref (b 16), .ref (b 17), .ref (b 18), .ref (b 19), .ref (b 20), .ref (b 21), .ref (b 22), .ref (b 23), .ref (b 24), .int (nI mf), .ref (b 26), .ref (b 27), .ref (b 28), .ref (b 29), .ref (b 30), .ref (b 31), .ref (b 32), .int (gg 32), .int (nI md), .ref (b 35), .ref (b 36), .ref (b 37), .ref (b 38), .ref (b 39), .ref (b 40), .int (gg 40), .ref (b 42), .ref (b 43), .ref (b 44), .int (gg 44), .ref (b 46), .ref (b 47), .int (gg 47), .ref (b 49)])), (b 1, .inl (cB, 200, .inl ta))] hP hD rfl
              refine lv_goto (tgt := 319) hx hb dX8_next_184 (by decide) ?_
              obtain ⟨hP9, hD9⟩ := zz_sub2 (ws' := [(b 0, .inr (8, [.ref (b 1), .int (nI mt), .int (nI (k + j)), .int (nI k), .int 4, .int (-1), .int wr, .int wa, .int (gg 8), .int (gg 9), .ref (b 11), .ref (b 12), .ref (b 13), .int (nI mc), .int (nI mh), .ref (b 16), .ref (b 17), .ref (b 18), .ref (b 19), .ref (b 20), .ref (b 21), .ref (b 22), .ref (b 23), .ref (b 24), .int (nI mf), .ref (b 26), .ref (b 27), .ref (b 28), .ref (b 29), .ref (b 30), .ref (b 31), .ref (b 32), .int (gg 32), .int (nI md), .ref (b 35), .ref (b 36), .ref (b 37), .ref (b 38), .ref (b 39), .ref (b 40), .int (gg 40), .ref (b 42), .ref (b 43), .ref (b 44), .int (gg 44), .ref (b 46), .ref (b 47), .int (gg 47), .ref (b 49)])), (b 1, .inl (cB, 200, .inl ta))]) hP hD [0, 1] (by decide) rfl
              have hK9 := hK.sub (tys' := [(cB, .byte)]) [0] rfl
              exact W.vret hx hb hr (fun t ht hW => ⟨⟨((k + j), (nI k), 4, (-1)), rfl, ⟨k, by omega, by omega, rfl, ib, Or.inr (Or.inl ⟨by omega, hs1, ⟨j, hj1, rfl, by omega, ij2, hend⟩, Or.inl ⟨zz_wd_long ij2 hend (by omega), rfl⟩⟩)⟩, by rw [ht]; exact hP9, va_K.moved hW.alike hK9, hD9⟩, hS.F ht⟩) hS.2.2 dX8_next_319
          · have zc_17 := c_17
            rw [← Int32.toInt_inj] at zc_17
            try rw [show (0 : Int32).toInt = 0 from by decide] at zc_17
            have hsj : zz_so (cs (k + j)) = 1 := (zz_by1 (hcs (k + j) (by omega))).mpr (zz_il1 e_16 c_17)
            refine lv_iload hx hb dX8_next_102 (lv_at hl 4 rfl) ?_
            refine lv_bipush (v := 8) hx hb dX8_next_104 (by decide) ?_
            refine lv_icmp_ge (tgt := 132) hx hb dX8_next_106 (by decide) (fun c_21 => ?_) (fun c_21 => ?_)
            · have zc_21 := c_21
              rw [Int32.le_iff_toInt_le] at zc_21
              try rw [zz_toInt j (by omega)] at zc_21
              try rw [show (8 : Int32).toInt = 8 from by decide] at zc_21
              refine lv_lload_n hx hb dX8_next_132 rfl (lv_at hl 3 rfl) ?_
              refine lv_lstore_n (lv' := [(3, .long y), (0, .ref (b 0)), (1, .int (nI ml)), (2, .int (ta k)), (5, .int (nI j))]) hx hb dX8_next_133 rfl hl (by decide) rfl (fun ls hl => ?_)
              refine lv_iinc (v := (nI (j + 1))) (lv' := [(5, .int (nI (j + 1))), (3, .long y), (0, .ref (b 0)), (1, .int (nI ml)), (2, .int (ta k))]) hx hb dX8_next_134 hl (k := 4) rfl (nI_1 _) (by decide) rfl (fun ls hl => ?_)
              refine lv_aload_n hx hb dX8_next_137 rfl (lv_at hl 2 rfl) ?_
              refine lv_dup hx hb dX8_next_138 rfl ?_
              refine va_get (D := (dC, dI)) (ci := 8) (v := .int (nI (k + j))) (C := RX8) (T := TX8) (N := 49) hx hb hw zz_inX8 hown hK hP 0 rfl rfl 2 (by decide) (hw _ tw_296) (fun _ h9 => h9) rfl dX8_next_139 ?_
              refine lv_iconst (v := 1) hx hb dX8_next_142 (by decide) ?_
              refine lv_iadd hx hb dX8_next_143 ?_
              refine zz_seti (nI ((k + j) + 1)) (nI_1 _) ?_
              refine va_put (D := (dC, dI)) (ci := 8) (v := .int (nI ((k + j) + 1))) (ty := .int) (C := RX8) (T := TX8) (N := 49) hx hb hw zz_inX8 tyX8 tyX8_ok nmX8 hown hK hP hD hS 0 rfl rfl 2 (by decide) (hw _ tw_296) (fun _ h9 => h9) rfl (by decide +kernel) rfl rfl (Nat.le_of_ble_eq_true rfl) dX8_next_144 (fun H locs hP hD hS => ?_)
              obtain ⟨hP, hD⟩ := zz_ty (D := (dC, dI)) (cl := vwCl) (A := A) (H := H) [(b 0, .inr (8, [.ref (b 1), .int (nI mt), .int (nI ((k + j) + 1)), .int (nI k), .int so, .int tl, .int wr, .int wa, .int (gg 8), .int (gg 9), .ref (b 11), .ref (b 12), .ref (b 13), .int (nI mc), .int (nI mh), .ref (b 16), .ref (b 17), .ref (b 18), .ref (b 19), .ref (b 20), .ref (b 21), .ref (b 22), .ref (b 23), .ref (b 24), .int (nI mf), .ref (b 26), .ref (b 27), .ref (b 28), .ref (b 29), .ref (b 30), .ref (b 31), .ref (b 32), .int (gg 32), .int (nI md), .ref (b 35), .ref (b 36), .ref (b 37), .ref (b 38), .ref (b 39), .ref (b 40), .int (gg 40), .ref (b 42), .ref (b 43), .ref (b 44), .int (gg 44), .ref (b 46), .ref (b 47), .int (gg 47), .ref (b 49)])), (b 1, .inl (cB, 200, .inl ta))] hP hD rfl
              refine lv_goto (tgt := 79) hx hb dX8_next_147 (by decide) ?_
              exact ih_79 ((j + 1), y) ⟨by omega, zz_run_ext ij2 hsj, fun h9 => absurd h9 (by omega)⟩ (show ml - (k + (j + 1)) < ml - (k + j) from by omega) _ _ _ (hP.sub [0, 1] rfl) (hD.sub [0, 1] (by decide) rfl) hS (lv_sub hl [2, 3, 4, 1, 0] rfl)
            · have zc_21 := c_21
              rw [Int32.le_iff_toInt_le] at zc_21
              try rw [zz_toInt j (by omega)] at zc_21
              try rw [show (8 : Int32).toInt = 8 from by decide] at zc_21
              refine lv_ldc2 (v := 64) hx hb hown (hw _ tw_308) dX8_next_109 ?_
              refine zz_setl (Int32.toInt64 64) (by decide) ?_
              refine lv_lload_n hx hb dX8_next_112 rfl (lv_at hl 3 rfl) ?_
              refine lv_lmul hx hb dX8_next_113 ?_
              refine lv_aload_n hx hb dX8_next_114 rfl (lv_at hl 0 rfl) ?_
              refine va_get (D := (dC, dI)) (ci := 8) (v := .ref (b 1)) (C := RX8) (T := TX8) (N := 49) hx hb hw zz_inX8 hown hK hP 0 rfl rfl 0 (by decide) (hw _ tw_191) (fun _ h9 => h9) rfl dX8_next_115 ?_
              refine lv_aload_n hx hb dX8_next_118 rfl (lv_at hl 0 rfl) ?_
              refine va_get (D := (dC, dI)) (ci := 8) (v := .int (nI (k + j))) (C := RX8) (T := TX8) (N := 49) hx hb hw zz_inX8 hown hK hP 0 rfl rfl 2 (by decide) (hw _ tw_296) (fun _ h9 => h9) rfl dX8_next_119 ?_
              refine va_bald hx hb hK hP 1 0 rfl rfl (vp_in_iff.mpr (by rw [zz_toInt (k + j) (by omega)]; constructor <;> omega)) dX8_next_122 ?_
              refine zz_seti (ta (k + j)) (congrArg ta (zz_cl (by omega))) ?_
              refine lv_i2l (v := Int32.toInt64 (ta (k + j))) hx hb dX8_next_123 rfl ?_
              refine lv_ladd hx hb dX8_next_124 ?_
              refine lv_ldc2 (v := 64) hx hb hown (hw _ tw_308) dX8_next_125 ?_
              refine zz_setl (Int32.toInt64 64) (by decide) ?_
              refine lv_lsub hx hb dX8_next_128 ?_
              refine lv_goto (tgt := 133) hx hb dX8_next_129 (by decide) ?_
              refine lv_lstore_n (lv' := [(3, .long ((((Int32.toInt64 64) * y) + (Int32.toInt64 (ta (k + j)))) - (Int32.toInt64 64))), (0, .ref (b 0)), (1, .int (nI ml)), (2, .int (ta k)), (5, .int (nI j))]) hx hb dX8_next_133 rfl hl (by decide) rfl (fun ls hl => ?_)
              refine lv_iinc (v := (nI (j + 1))) (lv' := [(5, .int (nI (j + 1))), (3, .long ((((Int32.toInt64 64) * y) + (Int32.toInt64 (ta (k + j)))) - (Int32.toInt64 64))), (0, .ref (b 0)), (1, .int (nI ml)), (2, .int (ta k))]) hx hb dX8_next_134 hl (k := 4) rfl (nI_1 _) (by decide) rfl (fun ls hl => ?_)
              refine lv_aload_n hx hb dX8_next_137 rfl (lv_at hl 2 rfl) ?_
              refine lv_dup hx hb dX8_next_138 rfl ?_
              refine va_get (D := (dC, dI)) (ci := 8) (v := .int (nI (k + j))) (C := RX8) (T := TX8) (N := 49) hx hb hw zz_inX8 hown hK hP 0 rfl rfl 2 (by decide) (hw _ tw_296) (fun _ h9 => h9) rfl dX8_next_139 ?_
              refine lv_iconst (v := 1) hx hb dX8_next_142 (by decide) ?_
              refine lv_iadd hx hb dX8_next_143 ?_
              refine zz_seti (nI ((k + j) + 1)) (nI_1 _) ?_
              refine va_put (D := (dC, dI)) (ci := 8) (v := .int (nI ((k + j) + 1))) (ty := .int) (C := RX8) (T := TX8) (N := 49) hx hb hw zz_inX8 tyX8 tyX8_ok nmX8 hown hK hP hD hS 0 rfl rfl 2 (by decide) (hw _ tw_296) (fun _ h9 => h9) rfl (by decide +kernel) rfl rfl (Nat.le_of_ble_eq_true rfl) dX8_next_144 (fun H locs hP hD hS => ?_)
              obtain ⟨hP, hD⟩ := zz_ty (D := (dC, dI)) (cl := vwCl) (A := A) (H := H) [(b 0, .inr (8, [.ref (b 1), .int (nI mt), .int (nI ((k + j) + 1)), .int (nI k), .int so, .int tl, .int wr, .int wa, .int (gg 8), .int (gg 9), .ref (b 11), .ref (b 12), .ref (b 13), .int (nI mc), .int (nI mh), .ref (b 16), .ref (b 17), .ref (b 18), .ref (b 19), .ref (b 20), .ref (b 21), .ref (b 22), .ref (b 23), .ref (b 24), .int (nI mf), .ref (b 26), .ref (b 27), .ref (b 28), .ref (b 29), .ref (b 30), .ref (b 31), .ref (b 32), .int (gg 32), .int (nI md), .ref (b 35), .ref (b 36), .ref (b 37), .ref (b 38), .ref (b 39), .ref (b 40), .int (gg 40), .ref (b 42), .ref (b 43), .ref (b 44), .int (gg 44), .ref (b 46), .ref (b 47), .int (gg 47), .ref (b 49)])), (b 1, .inl (cB, 200, .inl ta))] hP hD rfl
              refine lv_goto (tgt := 79) hx hb dX8_next_147 (by decide) ?_
              exact ih_79 ((j + 1), ((((Int32.toInt64 64) * y) + (Int32.toInt64 (ta (k + j)))) - (Int32.toInt64 64))) ⟨by omega, zz_run_ext ij2 hsj, fun _ => zz_cd_step ij2 (by omega) (iy (by omega)) hsj (zz_by_eq (hcs _ (by omega)) (Or.inl hsj))⟩ (show ml - (k + (j + 1)) < ml - (k + j) from by omega) _ _ _ (hP.sub [0, 1] rfl) (hD.sub [0, 1] (by decide) rfl) hS (lv_sub hl [2, 3, 4, 1, 0] rfl)
    · have zc_2 := c_2
      rw [← Int32.toInt_inj] at zc_2
      try rw [zz_toInt k (by omega)] at zc_2
      try rw [zz_toInt ml (by omega)] at zc_2
      refine lv_aload_n hx hb dX8_next_51 rfl (lv_at hl 0 rfl) ?_
      refine lv_iconst (v := 0) hx hb dX8_next_52 (by decide) ?_
      refine va_put (D := (dC, dI)) (ci := 8) (v := .int 0) (ty := .int) (C := RX8) (T := TX8) (N := 49) hx hb hw zz_inX8 tyX8 tyX8_ok nmX8 hown hK hP hD hS 0 rfl rfl 4 (by decide) (hw _ tw_302) (fun _ h9 => h9) rfl (by decide +kernel) rfl rfl (Nat.le_of_ble_eq_true rfl) dX8_next_53 (fun H locs hP hD hS => ?_)
      obtain ⟨hP, hD⟩ := zz_ty (D := (dC, dI)) (cl := vwCl) (A := A) (H := H) [(b 0, .inr (8, [.ref (b 1), .int (nI mt), .int (nI k), .int (nI k), .int 0, .int tl, .int wr, .int wa, .int (gg 8), .int (gg 9), .ref (b 11), .ref (b 12), .ref (b 13), .int (nI mc), .int (nI mh), .ref (b 16), .ref (b 17), .ref (b 18), .ref (b 19), .ref (b 20), .ref (b 21), .ref (b 22), .ref (b 23), .ref (b 24), .int (nI mf), .ref (b 26), .ref (b 27), .ref (b 28), .ref (b 29), .ref (b 30), .ref (b 31), .ref (b 32), .int (gg 32), .int (nI md), .ref (b 35), .ref (b 36), .ref (b 37), .ref (b 38), .ref (b 39), .ref (b 40), .int (gg 40), .ref (b 42), .ref (b 43), .ref (b 44), .int (gg 44), .ref (b 46), .ref (b 47), .int (gg 47), .ref (b 49)])), (b 1, .inl (cB, 200, .inl ta))] hP hD rfl
      obtain ⟨hP9, hD9⟩ := zz_sub2 (ws' := [(b 0, .inr (8, [.ref (b 1), .int (nI mt), .int (nI k), .int (nI k), .int 0, .int tl, .int wr, .int wa, .int (gg 8), .int (gg 9), .ref (b 11), .ref (b 12), .ref (b 13), .int (nI mc), .int (nI mh), .ref (b 16), .ref (b 17), .ref (b 18), .ref (b 19), .ref (b 20), .ref (b 21), .ref (b 22), .ref (b 23), .ref (b 24), .int (nI mf), .ref (b 26), .ref (b 27), .ref (b 28), .ref (b 29), .ref (b 30), .ref (b 31), .ref (b 32), .int (gg 32), .int (nI md), .ref (b 35), .ref (b 36), .ref (b 37), .ref (b 38), .ref (b 39), .ref (b 40), .int (gg 40), .ref (b 42), .ref (b 43), .ref (b 44), .int (gg 44), .ref (b 46), .ref (b 47), .int (gg 47), .ref (b 49)])), (b 1, .inl (cB, 200, .inl ta))]) hP hD [0, 1] (by decide) rfl
      have hK9 := hK.sub (tys' := [(cB, .byte)]) [0] rfl
      exact W.vret hx hb hr (fun t ht hW => ⟨⟨(k, (nI k), 0, tl), rfl, ⟨k, by omega, by omega, rfl, ib, Or.inl ⟨by omega, by omega, rfl⟩⟩, by rw [ht]; exact hP9, va_K.moved hW.alike hK9, hD9⟩, hS.F ht⟩) hS.2.2 dX8_next_56
  · have zc_1 := c_1
    rw [Int32.le_iff_toInt_le] at zc_1
    try rw [zz_toInt k (by omega)] at zc_1
    try rw [zz_toInt ml (by omega)] at zc_1
    refine lv_aload_n hx hb dX8_next_8 rfl (lv_at hl 0 rfl) ?_
    refine va_get (D := (dC, dI)) (ci := 8) (v := .ref (b 1)) (C := RX8) (T := TX8) (N := 49) hx hb hw zz_inX8 hown hK hP 0 rfl rfl 0 (by decide) (hw _ tw_191) (fun _ h9 => h9) rfl dX8_next_9 ?_
    refine lv_aload_n hx hb dX8_next_12 rfl (lv_at hl 0 rfl) ?_
    refine va_get (D := (dC, dI)) (ci := 8) (v := .int (nI k)) (C := RX8) (T := TX8) (N := 49) hx hb hw zz_inX8 hown hK hP 0 rfl rfl 2 (by decide) (hw _ tw_296) (fun _ h9 => h9) rfl dX8_next_13 ?_
    refine va_bald hx hb hK hP 1 0 rfl rfl (vp_in_iff.mpr (by rw [zz_toInt k (by omega)]; constructor <;> omega)) dX8_next_16 ?_
    refine zz_seti (ta k) (congrArg ta (zz_cl (by omega))) ?_
    refine lv_bipush (v := 32) hx hb dX8_next_17 (by decide) ?_
    refine lv_icmp_ne (tgt := 35) hx hb dX8_next_19 (by decide) (fun c_22 => ?_) (fun c_22 => ?_)
    · have zc_22 := c_22
      rw [← Int32.toInt_inj] at zc_22
      try rw [show (32 : Int32).toInt = 32 from by decide] at zc_22
      refine lv_aload_n hx hb dX8_next_35 rfl (lv_at hl 0 rfl) ?_
      refine lv_aload_n hx hb dX8_next_36 rfl (lv_at hl 0 rfl) ?_
      refine va_get (D := (dC, dI)) (ci := 8) (v := .int (nI k)) (C := RX8) (T := TX8) (N := 49) hx hb hw zz_inX8 hown hK hP 0 rfl rfl 2 (by decide) (hw _ tw_296) (fun _ h9 => h9) rfl dX8_next_37 ?_
      refine va_put (D := (dC, dI)) (ci := 8) (v := .int (nI k)) (ty := .int) (C := RX8) (T := TX8) (N := 49) hx hb hw zz_inX8 tyX8 tyX8_ok nmX8 hown hK hP hD hS 0 rfl rfl 3 (by decide) (hw _ tw_271) (fun _ h9 => h9) rfl (by decide +kernel) rfl rfl (Nat.le_of_ble_eq_true rfl) dX8_next_40 (fun H locs hP hD hS => ?_)
      obtain ⟨hP, hD⟩ := zz_ty (D := (dC, dI)) (cl := vwCl) (A := A) (H := H) [(b 0, .inr (8, [.ref (b 1), .int (nI mt), .int (nI k), .int (nI k), .int so, .int tl, .int wr, .int wa, .int (gg 8), .int (gg 9), .ref (b 11), .ref (b 12), .ref (b 13), .int (nI mc), .int (nI mh), .ref (b 16), .ref (b 17), .ref (b 18), .ref (b 19), .ref (b 20), .ref (b 21), .ref (b 22), .ref (b 23), .ref (b 24), .int (nI mf), .ref (b 26), .ref (b 27), .ref (b 28), .ref (b 29), .ref (b 30), .ref (b 31), .ref (b 32), .int (gg 32), .int (nI md), .ref (b 35), .ref (b 36), .ref (b 37), .ref (b 38), .ref (b 39), .ref (b 40), .int (gg 40), .ref (b 42), .ref (b 43), .ref (b 44), .int (gg 44), .ref (b 46), .ref (b 47), .int (gg 47), .ref (b 49)])), (b 1, .inl (cB, 200, .inl ta))] hP hD rfl
      refine lv_aload_n hx hb dX8_next_43 rfl (lv_at hl 0 rfl) ?_
      refine va_get (D := (dC, dI)) (ci := 8) (v := .int (nI k)) (C := RX8) (T := TX8) (N := 49) hx hb hw zz_inX8 hown hK hP 0 rfl rfl 2 (by decide) (hw _ tw_296) (fun _ h9 => h9) rfl dX8_next_44 ?_
      refine lv_iload_n hx hb dX8_next_47 rfl (lv_at hl 1 rfl) ?_
      refine lv_icmp_ne (tgt := 57) hx hb dX8_next_48 (by decide) (fun c_23 => ?_) (fun c_23 => ?_)
      · have zc_23 := c_23
        rw [← Int32.toInt_inj] at zc_23
        try rw [zz_toInt k (by omega)] at zc_23
        try rw [zz_toInt ml (by omega)] at zc_23
        refine lv_aload_n hx hb dX8_next_57 rfl (lv_at hl 0 rfl) ?_
        refine va_get (D := (dC, dI)) (ci := 8) (v := .ref (b 1)) (C := RX8) (T := TX8) (N := 49) hx hb hw zz_inX8 hown hK hP 0 rfl rfl 0 (by decide) (hw _ tw_191) (fun _ h9 => h9) rfl dX8_next_58 ?_
        refine lv_aload_n hx hb dX8_next_61 rfl (lv_at hl 0 rfl) ?_
        refine va_get (D := (dC, dI)) (ci := 8) (v := .int (nI k)) (C := RX8) (T := TX8) (N := 49) hx hb hw zz_inX8 hown hK hP 0 rfl rfl 2 (by decide) (hw _ tw_296) (fun _ h9 => h9) rfl dX8_next_62 ?_
        refine va_bald hx hb hK hP 1 0 rfl rfl (vp_in_iff.mpr (by rw [zz_toInt k (by omega)]; constructor <;> omega)) dX8_next_65 ?_
        refine zz_seti (ta k) (congrArg ta (zz_cl (by omega))) ?_
        refine lv_istore_n (lv' := [(2, .int (ta k)), (0, .ref (b 0)), (1, .int (nI ml))]) hx hb dX8_next_66 rfl hl (by decide) rfl (fun ls hl => ?_)
        refine lv_iload_n hx hb dX8_next_67 rfl (lv_at hl 0 rfl) ?_
        obtain ⟨hPc, hDc⟩ := zz_sub2 (ws' := []) hP hD [] (by decide) rfl
        have hKc := hK.sub (tys' := []) [] rfl
        have hFc := zz_free0 hS hA
        refine va_calli (va_runS (As := [.int (ta k)]) (rest := []) ⟨hx, hb, hml, hown, hw⟩ (m_isLetter l dC dI (ta k) H.size) ⟨callB_of 1 hw (zz_good tw_297) rfl rfl rfl (hw _ tw_184) (hw _ tw_298) (by decide +kernel) ⟨Nat.le_of_ble_eq_true rfl, Nat.le_of_ble_eq_true rfl⟩, (hw _ tw_299)⟩ ⟨zz_blind, zz_pre hPc hKc hDc hN⟩ rfl rfl hl.1 rfl (lv_room (Nat.le_of_ble_eq_true rfl)) dX8_next_68 ⟨Nat.le_of_ble_eq_true rfl, Nat.le_of_ble_eq_true rfl⟩) hS (fun q _ h => hFc q h) hFc (fun r_24 u_24 t H1 locs ht hvm e_24 hB hz1 hk1 hS => ?_)
        try dsimp only at e_24
        have hP := zz_keep hP hk1
        clear hk1 hB ht hvm
        generalize H1 = H at hP hS ⊢
        refine lv_if_eq (tgt := 187) hx hb dX8_next_71 (by decide) (fun c_25 => ?_) (fun c_25 => ?_)
        · have zc_25 := c_25
          rw [← Int32.toInt_inj] at zc_25
          try rw [show (0 : Int32).toInt = 0 from by decide] at zc_25
          have hn1 : ¬ zz_so (cs k) = 1 := fun h9 => absurd ((zz_by1 (hcs k (by omega))).mp h9) (zz_il0 e_24 c_25)
          refine lv_iload_n hx hb dX8_next_187 rfl (lv_at hl 0 rfl) ?_
          refine lv_i2l (v := Int32.toInt64 (ta k)) hx hb dX8_next_188 rfl ?_
          refine lv_ldc2 (v := 48) hx hb hown (hw _ tw_300) dX8_next_189 ?_
          refine zz_setl (Int32.toInt64 48) (by decide) ?_
          refine lv_ldc2 (v := 57) hx hb hown (hw _ tw_301) dX8_next_192 ?_
          refine zz_setl (Int32.toInt64 57) (by decide) ?_
          obtain ⟨hPc, hDc⟩ := zz_sub2 (ws' := []) hP hD [] (by decide) rfl
          have hKc := hK.sub (tys' := []) [] rfl
          have hFc := zz_free0 hS hA
          refine va_calli (va_runS (As := [.long (Int32.toInt64 (ta k)), .long (Int32.toInt64 48), .long (Int32.toInt64 57)]) (rest := []) ⟨hx, hb, hml, hown, hw⟩ (k_in l dC dI (ta k) 48 57 H.size) ⟨callB_of 3 hw (zz_good tw_183) rfl rfl rfl (hw _ tw_184) (hw _ tw_185) (by decide +kernel) ⟨Nat.le_of_ble_eq_true rfl, Nat.le_of_ble_eq_true rfl⟩, (hw _ tw_186)⟩ ⟨zz_blind, zz_pre hPc hKc hDc hN⟩ rfl rfl hl.1 rfl (lv_room (Nat.le_of_ble_eq_true rfl)) dX8_next_195 ⟨Nat.le_of_ble_eq_true rfl, Nat.le_of_ble_eq_true rfl⟩) hS (fun q _ h => hFc q h) hFc (fun r_26 u_26 t H1 locs ht hvm e_26 hB hz1 hk1 hS => ?_)
          try dsimp only at e_26
          have hP := zz_keep hP hk1
          clear hk1 hB ht hvm
          generalize H1 = H at hP hS ⊢
          refine lv_if_eq (tgt := 294) hx hb dX8_next_198 (by decide) (fun c_27 => ?_) (fun c_27 => ?_)
          · have zc_27 := c_27
            rw [e_26, zz_in0, Int32.le_iff_toInt_le, Int32.le_iff_toInt_le] at zc_27
            try rw [show (48 : Int32).toInt = 48 from by decide] at zc_27
            try rw [show (57 : Int32).toInt = 57 from by decide] at zc_27
            have hn2 : ¬ zz_so (cs k) = 2 := fun h9 => absurd ((zz_by2 (hcs k (by omega))).mp h9) (by omega)
            have hn0 : ¬ zz_so (cs k) = 0 := fun h9 => absurd ((zz_by0 (hcs k (by omega))).mp h9) (by omega)
            refine lv_aload_n hx hb dX8_next_294 rfl (lv_at hl 1 rfl) ?_
            refine lv_dup hx hb dX8_next_295 rfl ?_
            refine va_get (D := (dC, dI)) (ci := 8) (v := .int (nI k)) (C := RX8) (T := TX8) (N := 49) hx hb hw zz_inX8 hown hK hP 0 rfl rfl 2 (by decide) (hw _ tw_296) (fun _ h9 => h9) rfl dX8_next_296 ?_
            refine lv_iconst (v := 1) hx hb dX8_next_299 (by decide) ?_
            refine lv_iadd hx hb dX8_next_300 ?_
            refine zz_seti (nI (k + 1)) (nI_1 _) ?_
            refine va_put (D := (dC, dI)) (ci := 8) (v := .int (nI (k + 1))) (ty := .int) (C := RX8) (T := TX8) (N := 49) hx hb hw zz_inX8 tyX8 tyX8_ok nmX8 hown hK hP hD hS 0 rfl rfl 2 (by decide) (hw _ tw_296) (fun _ h9 => h9) rfl (by decide +kernel) rfl rfl (Nat.le_of_ble_eq_true rfl) dX8_next_301 (fun H locs hP hD hS => ?_)
            obtain ⟨hP, hD⟩ := zz_ty (D := (dC, dI)) (cl := vwCl) (A := A) (H := H) [(b 0, .inr (8, [.ref (b 1), .int (nI mt), .int (nI (k + 1)), .int (nI k), .int so, .int tl, .int wr, .int wa, .int (gg 8), .int (gg 9), .ref (b 11), .ref (b 12), .ref (b 13), .int (nI mc), .int (nI mh), .ref (b 16), .ref (b 17), .ref (b 18), .ref (b 19), .ref (b 20), .ref (b 21), .ref (b 22), .ref (b 23), .ref (b 24), .int (nI mf), .ref (b 26), .ref (b 27), .ref (b 28), .ref (b 29), .ref (b 30), .ref (b 31), .ref (b 32), .int (gg 32), .int (nI md), .ref (b 35), .ref (b 36), .ref (b 37), .ref (b 38), .ref (b 39), .ref (b 40), .int (gg 40), .ref (b 42), .ref (b 43), .ref (b 44), .int (gg 44), .ref (b 46), .ref (b 47), .int (gg 47), .ref (b 49)])), (b 1, .inl (cB, 200, .inl ta))] hP hD rfl
            refine lv_aload_n hx hb dX8_next_304 rfl (lv_at hl 1 rfl) ?_
            refine lv_iload_n hx hb dX8_next_305 rfl (lv_at hl 0 rfl) ?_
            refine lv_bipush (v := 59) hx hb dX8_next_306 (by decide) ?_
            refine lv_icmp_ne (tgt := 315) hx hb dX8_next_308 (by decide) (fun c_28 => ?_) (fun c_28 => ?_)
            · have zc_28 := c_28
              rw [← Int32.toInt_inj] at zc_28
              try rw [show (59 : Int32).toInt = 59 from by decide] at zc_28
              refine lv_iconst (v := 4) hx hb dX8_next_315 (by decide) ?_
              refine va_put (D := (dC, dI)) (ci := 8) (v := .int 4) (ty := .int) (C := RX8) (T := TX8) (N := 49) hx hb hw zz_inX8 tyX8 tyX8_ok nmX8 hown hK hP hD hS 0 rfl rfl 4 (by decide) (hw _ tw_302) (fun _ h9 => h9) rfl (by decide +kernel) rfl rfl (Nat.le_of_ble_eq_true rfl) dX8_next_316 (fun H locs hP hD hS => ?_)
              obtain ⟨hP, hD⟩ := zz_ty (D := (dC, dI)) (cl := vwCl) (A := A) (H := H) [(b 0, .inr (8, [.ref (b 1), .int (nI mt), .int (nI (k + 1)), .int (nI k), .int 4, .int tl, .int wr, .int wa, .int (gg 8), .int (gg 9), .ref (b 11), .ref (b 12), .ref (b 13), .int (nI mc), .int (nI mh), .ref (b 16), .ref (b 17), .ref (b 18), .ref (b 19), .ref (b 20), .ref (b 21), .ref (b 22), .ref (b 23), .ref (b 24), .int (nI mf), .ref (b 26), .ref (b 27), .ref (b 28), .ref (b 29), .ref (b 30), .ref (b 31), .ref (b 32), .int (gg 32), .int (nI md), .ref (b 35), .ref (b 36), .ref (b 37), .ref (b 38), .ref (b 39), .ref (b 40), .int (gg 40), .ref (b 42), .ref (b 43), .ref (b 44), .int (gg 44), .ref (b 46), .ref (b 47), .int (gg 47), .ref (b 49)])), (b 1, .inl (cB, 200, .inl ta))] hP hD rfl
              obtain ⟨hP9, hD9⟩ := zz_sub2 (ws' := [(b 0, .inr (8, [.ref (b 1), .int (nI mt), .int (nI (k + 1)), .int (nI k), .int 4, .int tl, .int wr, .int wa, .int (gg 8), .int (gg 9), .ref (b 11), .ref (b 12), .ref (b 13), .int (nI mc), .int (nI mh), .ref (b 16), .ref (b 17), .ref (b 18), .ref (b 19), .ref (b 20), .ref (b 21), .ref (b 22), .ref (b 23), .ref (b 24), .int (nI mf), .ref (b 26), .ref (b 27), .ref (b 28), .ref (b 29), .ref (b 30), .ref (b 31), .ref (b 32), .int (gg 32), .int (nI md), .ref (b 35), .ref (b 36), .ref (b 37), .ref (b 38), .ref (b 39), .ref (b 40), .int (gg 40), .ref (b 42), .ref (b 43), .ref (b 44), .int (gg 44), .ref (b 46), .ref (b 47), .int (gg 47), .ref (b 49)])), (b 1, .inl (cB, 200, .inl ta))]) hP hD [0, 1] (by decide) rfl
              have hK9 := hK.sub (tys' := [(cB, .byte)]) [0] rfl
              exact W.vret hx hb hr (fun t ht hW => ⟨⟨((k + 1), (nI k), 4, tl), rfl, ⟨k, by omega, by omega, rfl, ib, Or.inr (Or.inr (Or.inr ⟨by omega, rfl, Or.inr ⟨zz_so_4 hn0 hn1 hn2 (fun h9 => absurd ((zz_by3 (hcs k (by omega))).mp h9) (by omega)), rfl⟩⟩))⟩, by rw [ht]; exact hP9, va_K.moved hW.alike hK9, hD9⟩, hS.F ht⟩) hS.2.2 dX8_next_319
            · have zc_28 := c_28
              rw [← Int32.toInt_inj] at zc_28
              try rw [show (59 : Int32).toInt = 59 from by decide] at zc_28
              refine lv_iconst (v := 3) hx hb dX8_next_311 (by decide) ?_
              refine lv_goto (tgt := 316) hx hb dX8_next_312 (by decide) ?_
              refine va_put (D := (dC, dI)) (ci := 8) (v := .int 3) (ty := .int) (C := RX8) (T := TX8) (N := 49) hx hb hw zz_inX8 tyX8 tyX8_ok nmX8 hown hK hP hD hS 0 rfl rfl 4 (by decide) (hw _ tw_302) (fun _ h9 => h9) rfl (by decide +kernel) rfl rfl (Nat.le_of_ble_eq_true rfl) dX8_next_316 (fun H locs hP hD hS => ?_)
              obtain ⟨hP, hD⟩ := zz_ty (D := (dC, dI)) (cl := vwCl) (A := A) (H := H) [(b 0, .inr (8, [.ref (b 1), .int (nI mt), .int (nI (k + 1)), .int (nI k), .int 3, .int tl, .int wr, .int wa, .int (gg 8), .int (gg 9), .ref (b 11), .ref (b 12), .ref (b 13), .int (nI mc), .int (nI mh), .ref (b 16), .ref (b 17), .ref (b 18), .ref (b 19), .ref (b 20), .ref (b 21), .ref (b 22), .ref (b 23), .ref (b 24), .int (nI mf), .ref (b 26), .ref (b 27), .ref (b 28), .ref (b 29), .ref (b 30), .ref (b 31), .ref (b 32), .int (gg 32), .int (nI md), .ref (b 35), .ref (b 36), .ref (b 37), .ref (b 38), .ref (b 39), .ref (b 40), .int (gg 40), .ref (b 42), .ref (b 43), .ref (b 44), .int (gg 44), .ref (b 46), .ref (b 47), .int (gg 47), .ref (b 49)])), (b 1, .inl (cB, 200, .inl ta))] hP hD rfl
              obtain ⟨hP9, hD9⟩ := zz_sub2 (ws' := [(b 0, .inr (8, [.ref (b 1), .int (nI mt), .int (nI (k + 1)), .int (nI k), .int 3, .int tl, .int wr, .int wa, .int (gg 8), .int (gg 9), .ref (b 11), .ref (b 12), .ref (b 13), .int (nI mc), .int (nI mh), .ref (b 16), .ref (b 17), .ref (b 18), .ref (b 19), .ref (b 20), .ref (b 21), .ref (b 22), .ref (b 23), .ref (b 24), .int (nI mf), .ref (b 26), .ref (b 27), .ref (b 28), .ref (b 29), .ref (b 30), .ref (b 31), .ref (b 32), .int (gg 32), .int (nI md), .ref (b 35), .ref (b 36), .ref (b 37), .ref (b 38), .ref (b 39), .ref (b 40), .int (gg 40), .ref (b 42), .ref (b 43), .ref (b 44), .int (gg 44), .ref (b 46), .ref (b 47), .int (gg 47), .ref (b 49)])), (b 1, .inl (cB, 200, .inl ta))]) hP hD [0, 1] (by decide) rfl
              have hK9 := hK.sub (tys' := [(cB, .byte)]) [0] rfl
              exact W.vret hx hb hr (fun t ht hW => ⟨⟨((k + 1), (nI k), 3, tl), rfl, ⟨k, by omega, by omega, rfl, ib, Or.inr (Or.inr (Or.inr ⟨by omega, rfl, Or.inl ⟨(zz_by3 (hcs k (by omega))).mpr (by omega), rfl⟩⟩))⟩, by rw [ht]; exact hP9, va_K.moved hW.alike hK9, hD9⟩, hS.F ht⟩) hS.2.2 dX8_next_319
          · have zc_27 := c_27
            rw [e_26, zz_in0, Int32.le_iff_toInt_le, Int32.le_iff_toInt_le] at zc_27
            try rw [show (48 : Int32).toInt = 48 from by decide] at zc_27
            try rw [show (57 : Int32).toInt = 57 from by decide] at zc_27
            have hs2 : zz_so (cs k) = 2 := (zz_by2 (hcs k (by omega))).mpr (by omega)
            refine lv_aload_n hx hb dX8_next_201 rfl (lv_at hl 1 rfl) ?_
            refine lv_iconst (v := 2) hx hb dX8_next_202 (by decide) ?_
            refine va_put (D := (dC, dI)) (ci := 8) (v := .int 2) (ty := .int) (C := RX8) (T := TX8) (N := 49) hx hb hw zz_inX8 tyX8 tyX8_ok nmX8 hown hK hP hD hS 0 rfl rfl 4 (by decide) (hw _ tw_302) (fun _ h9 => h9) rfl (by decide +kernel) rfl rfl (Nat.le_of_ble_eq_true rfl) dX8_next_203 (fun H locs hP hD hS => ?_)
            obtain ⟨hP, hD⟩ := zz_ty (D := (dC, dI)) (cl := vwCl) (A := A) (H := H) [(b 0, .inr (8, [.ref (b 1), .int (nI mt), .int (nI k), .int (nI k), .int 2, .int tl, .int wr, .int wa, .int (gg 8), .int (gg 9), .ref (b 11), .ref (b 12), .ref (b 13), .int (nI mc), .int (nI mh), .ref (b 16), .ref (b 17), .ref (b 18), .ref (b 19), .ref (b 20), .ref (b 21), .ref (b 22), .ref (b 23), .ref (b 24), .int (nI mf), .ref (b 26), .ref (b 27), .ref (b 28), .ref (b 29), .ref (b 30), .ref (b 31), .ref (b 32), .int (gg 32), .int (nI md), .ref (b 35), .ref (b 36), .ref (b 37), .ref (b 38), .ref (b 39), .ref (b 40), .int (gg 40), .ref (b 42), .ref (b 43), .ref (b 44), .int (gg 44), .ref (b 46), .ref (b 47), .int (gg 47), .ref (b 49)])), (b 1, .inl (cB, 200, .inl ta))] hP hD rfl
            refine lv_aload_n hx hb dX8_next_206 rfl (lv_at hl 1 rfl) ?_
            refine lv_iconst (v := 0) hx hb dX8_next_207 (by decide) ?_
            refine va_put (D := (dC, dI)) (ci := 8) (v := .int 0) (ty := .int) (C := RX8) (T := TX8) (N := 49) hx hb hw zz_inX8 tyX8 tyX8_ok nmX8 hown hK hP hD hS 0 rfl rfl 5 (by decide) (hw _ tw_303) (fun _ h9 => h9) rfl (by decide +kernel) rfl rfl (Nat.le_of_ble_eq_true rfl) dX8_next_208 (fun H locs hP hD hS => ?_)
            obtain ⟨hP, hD⟩ := zz_ty (D := (dC, dI)) (cl := vwCl) (A := A) (H := H) [(b 0, .inr (8, [.ref (b 1), .int (nI mt), .int (nI k), .int (nI k), .int 2, .int 0, .int wr, .int wa, .int (gg 8), .int (gg 9), .ref (b 11), .ref (b 12), .ref (b 13), .int (nI mc), .int (nI mh), .ref (b 16), .ref (b 17), .ref (b 18), .ref (b 19), .ref (b 20), .ref (b 21), .ref (b 22), .ref (b 23), .ref (b 24), .int (nI mf), .ref (b 26), .ref (b 27), .ref (b 28), .ref (b 29), .ref (b 30), .ref (b 31), .ref (b 32), .int (gg 32), .int (nI md), .ref (b 35), .ref (b 36), .ref (b 37), .ref (b 38), .ref (b 39), .ref (b 40), .int (gg 40), .ref (b 42), .ref (b 43), .ref (b 44), .int (gg 44), .ref (b 46), .ref (b 47), .int (gg 47), .ref (b 49)])), (b 1, .inl (cB, 200, .inl ta))] hP hD rfl
            refine zz_loopS (fun (u : (Nat) × (Int32)) => match u with | (j, td) => [(b 0, .inr (8, [.ref (b 1), .int (nI mt), .int (nI (k + j)), .int (nI k), .int 2, .int td, .int wr, .int wa, .int (gg 8), .int (gg 9), .ref (b 11), .ref (b 12), .ref (b 13), .int (nI mc), .int (nI mh), .ref (b 16), .ref (b 17), .ref (b 18), .ref (b 19), .ref (b 20), .ref (b 21), .ref (b 22), .ref (b 23), .ref (b 24), .int (nI mf), .ref (b 26), .ref (b 27), .ref (b 28), .ref (b 29), .ref (b 30), .ref (b 31), .ref (b 32), .int (gg 32), .int (nI md), .ref (b 35), .ref (b 36), .ref (b 37), .ref (b 38), .ref (b 39), .ref (b 40), .int (gg 40), .ref (b 42), .ref (b 43), .ref (b 44), .int (gg 44), .ref (b 46), .ref (b 47), .int (gg 47), .ref (b 49)])), (b 1, .inl (cB, 200, .inl ta))]) (fun (u : (Nat) × (Int32)) => match u with | (j, td) => [(0, .ref (b 0)), (1, .int (nI ml)), (2, .int (ta k))]) (fun (u : (Nat) × (Int32)) => match u with | (j, td) => k + j ≤ ml ∧ zz_run cs 2 k j ∧ zz_tn td (zz_nv cs k j)) (fun (u : (Nat) × (Int32)) => match u with | (j, td) => ml - (k + j)) (fun u hI H locs ls hP hD hS hl ih_211 => ?_) (0, 0) ⟨by omega, (fun i hi => absurd hi (by omega)), zz_tn_0⟩ _ _ _ (hP.sub [0, 1] rfl) (hD.sub [0, 1] (by decide) rfl) hS (lv_sub hl [1, 2, 0] rfl)
            obtain ⟨j, td⟩ := u
            obtain ⟨hP, hD⟩ := zz_ty (D := (dC, dI)) (cl := vwCl) (A := A) (H := H) [(b 0, .inr (8, [.ref (b 1), .int (nI mt), .int (nI (k + j)), .int (nI k), .int 2, .int td, .int wr, .int wa, .int (gg 8), .int (gg 9), .ref (b 11), .ref (b 12), .ref (b 13), .int (nI mc), .int (nI mh), .ref (b 16), .ref (b 17), .ref (b 18), .ref (b 19), .ref (b 20), .ref (b 21), .ref (b 22), .ref (b 23), .ref (b 24), .int (nI mf), .ref (b 26), .ref (b 27), .ref (b 28), .ref (b 29), .ref (b 30), .ref (b 31), .ref (b 32), .int (gg 32), .int (nI md), .ref (b 35), .ref (b 36), .ref (b 37), .ref (b 38), .ref (b 39), .ref (b 40), .int (gg 40), .ref (b 42), .ref (b 43), .ref (b 44), .int (gg 44), .ref (b 46), .ref (b 47), .int (gg 47), .ref (b 49)])), (b 1, .inl (cB, 200, .inl ta))] hP hD rfl
            have hl : lv_has ls 6 [(0, .ref (b 0)), (1, .int (nI ml)), (2, .int (ta k))] := hl
            have hI : k + j ≤ ml ∧ zz_run cs 2 k j ∧ zz_tn td (zz_nv cs k j) := hI
            obtain ⟨ij0, ij2, it⟩ := hI
            refine lv_aload_n hx hb dX8_next_211 rfl (lv_at hl 0 rfl) ?_
            refine va_get (D := (dC, dI)) (ci := 8) (v := .int (nI (k + j))) (C := RX8) (T := TX8) (N := 49) hx hb hw zz_inX8 hown hK hP 0 rfl rfl 2 (by decide) (hw _ tw_296) (fun _ h9 => h9) rfl dX8_next_212 ?_
            refine lv_iload_n hx hb dX8_next_215 rfl (lv_at hl 1 rfl) ?_
            refine lv_icmp_ge (tgt := 319) hx hb dX8_next_216 (by decide) (fun c_29 => ?_) (fun c_29 => ?_)
            · have zc_29 := c_29
              rw [Int32.le_iff_toInt_le] at zc_29
              try rw [zz_toInt (k + j) (by omega)] at zc_29
              try rw [zz_toInt ml (by omega)] at zc_29
              obtain ⟨hP9, hD9⟩ := zz_sub2 (ws' := [(b 0, .inr (8, [.ref (b 1), .int (nI mt), .int (nI (k + j)), .int (nI k), .int 2, .int td, .int wr, .int wa, .int (gg 8), .int (gg 9), .ref (b 11), .ref (b 12), .ref (b 13), .int (nI mc), .int (nI mh), .ref (b 16), .ref (b 17), .ref (b 18), .ref (b 19), .ref (b 20), .ref (b 21), .ref (b 22), .ref (b 23), .ref (b 24), .int (nI mf), .ref (b 26), .ref (b 27), .ref (b 28), .ref (b 29), .ref (b 30), .ref (b 31), .ref (b 32), .int (gg 32), .int (nI md), .ref (b 35), .ref (b 36), .ref (b 37), .ref (b 38), .ref (b 39), .ref (b 40), .int (gg 40), .ref (b 42), .ref (b 43), .ref (b 44), .int (gg 44), .ref (b 46), .ref (b 47), .int (gg 47), .ref (b 49)])), (b 1, .inl (cB, 200, .inl ta))]) hP hD [0, 1] (by decide) rfl
              have hK9 := hK.sub (tys' := [(cB, .byte)]) [0] rfl
              exact W.vret hx hb hr (fun t ht hW => ⟨⟨((k + j), (nI k), 2, td), rfl, ⟨k, by omega, by omega, rfl, ib, Or.inr (Or.inr (Or.inl ⟨by omega, hs2, rfl, j, zz_pos1 hs2 (by rw [hce _ (by omega)]; decide), rfl, by omega, ij2, (by rw [hce _ (by omega)]; decide), it⟩))⟩, by rw [ht]; exact hP9, va_K.moved hW.alike hK9, hD9⟩, hS.F ht⟩) hS.2.2 dX8_next_319
            · have zc_29 := c_29
              rw [Int32.le_iff_toInt_le] at zc_29
              try rw [zz_toInt (k + j) (by omega)] at zc_29
              try rw [zz_toInt ml (by omega)] at zc_29
              refine lv_aload_n hx hb dX8_next_219 rfl (lv_at hl 0 rfl) ?_
              refine va_get (D := (dC, dI)) (ci := 8) (v := .ref (b 1)) (C := RX8) (T := TX8) (N := 49) hx hb hw zz_inX8 hown hK hP 0 rfl rfl 0 (by decide) (hw _ tw_191) (fun _ h9 => h9) rfl dX8_next_220 ?_
              refine lv_aload_n hx hb dX8_next_223 rfl (lv_at hl 0 rfl) ?_
              refine va_get (D := (dC, dI)) (ci := 8) (v := .int (nI (k + j))) (C := RX8) (T := TX8) (N := 49) hx hb hw zz_inX8 hown hK hP 0 rfl rfl 2 (by decide) (hw _ tw_296) (fun _ h9 => h9) rfl dX8_next_224 ?_
              refine va_bald hx hb hK hP 1 0 rfl rfl (vp_in_iff.mpr (by rw [zz_toInt (k + j) (by omega)]; constructor <;> omega)) dX8_next_227 ?_
              refine zz_seti (ta (k + j)) (congrArg ta (zz_cl (by omega))) ?_
              refine lv_i2l (v := Int32.toInt64 (ta (k + j))) hx hb dX8_next_228 rfl ?_
              refine lv_ldc2 (v := 48) hx hb hown (hw _ tw_300) dX8_next_229 ?_
              refine zz_setl (Int32.toInt64 48) (by decide) ?_
              refine lv_ldc2 (v := 57) hx hb hown (hw _ tw_301) dX8_next_232 ?_
              refine zz_setl (Int32.toInt64 57) (by decide) ?_
              obtain ⟨hPc, hDc⟩ := zz_sub2 (ws' := []) hP hD [] (by decide) rfl
              have hKc := hK.sub (tys' := []) [] rfl
              have hFc := zz_free0 hS hA
              refine va_calli (va_runS (As := [.long (Int32.toInt64 (ta (k + j))), .long (Int32.toInt64 48), .long (Int32.toInt64 57)]) (rest := []) ⟨hx, hb, hml, hown, hw⟩ (k_in l dC dI (ta (k + j)) 48 57 H.size) ⟨callB_of 3 hw (zz_good tw_183) rfl rfl rfl (hw _ tw_184) (hw _ tw_185) (by decide +kernel) ⟨Nat.le_of_ble_eq_true rfl, Nat.le_of_ble_eq_true rfl⟩, (hw _ tw_186)⟩ ⟨zz_blind, zz_pre hPc hKc hDc hN⟩ rfl rfl hl.1 rfl (lv_room (Nat.le_of_ble_eq_true rfl)) dX8_next_235 ⟨Nat.le_of_ble_eq_true rfl, Nat.le_of_ble_eq_true rfl⟩) hS (fun q _ h => hFc q h) hFc (fun r_30 u_30 t H1 locs ht hvm e_30 hB hz1 hk1 hS => ?_)
              try dsimp only at e_30
              have hP := zz_keep hP hk1
              clear hk1 hB ht hvm
              generalize H1 = H at hP hS ⊢
              refine lv_if_eq (tgt := 319) hx hb dX8_next_238 (by decide) (fun c_31 => ?_) (fun c_31 => ?_)
              · have zc_31 := c_31
                rw [e_30, zz_in0, Int32.le_iff_toInt_le, Int32.le_iff_toInt_le] at zc_31
                try rw [show (48 : Int32).toInt = 48 from by decide] at zc_31
                try rw [show (57 : Int32).toInt = 57 from by decide] at zc_31
                obtain ⟨hP9, hD9⟩ := zz_sub2 (ws' := [(b 0, .inr (8, [.ref (b 1), .int (nI mt), .int (nI (k + j)), .int (nI k), .int 2, .int td, .int wr, .int wa, .int (gg 8), .int (gg 9), .ref (b 11), .ref (b 12), .ref (b 13), .int (nI mc), .int (nI mh), .ref (b 16), .ref (b 17), .ref (b 18), .ref (b 19), .ref (b 20), .ref (b 21), .ref (b 22), .ref (b 23), .ref (b 24), .int (nI mf), .ref (b 26), .ref (b 27), .ref (b 28), .ref (b 29), .ref (b 30), .ref (b 31), .ref (b 32), .int (gg 32), .int (nI md), .ref (b 35), .ref (b 36), .ref (b 37), .ref (b 38), .ref (b 39), .ref (b 40), .int (gg 40), .ref (b 42), .ref (b 43), .ref (b 44), .int (gg 44), .ref (b 46), .ref (b 47), .int (gg 47), .ref (b 49)])), (b 1, .inl (cB, 200, .inl ta))]) hP hD [0, 1] (by decide) rfl
                have hK9 := hK.sub (tys' := [(cB, .byte)]) [0] rfl
                exact W.vret hx hb hr (fun t ht hW => ⟨⟨((k + j), (nI k), 2, td), rfl, ⟨k, by omega, by omega, rfl, ib, Or.inr (Or.inr (Or.inl ⟨by omega, hs2, rfl, j, zz_pos1 hs2 (fun h9 => absurd ((zz_by2 (hcs (k + j) (by omega))).mp h9) (by omega)), rfl, by omega, ij2, (fun h9 => absurd ((zz_by2 (hcs (k + j) (by omega))).mp h9) (by omega)), it⟩))⟩, by rw [ht]; exact hP9, va_K.moved hW.alike hK9, hD9⟩, hS.F ht⟩) hS.2.2 dX8_next_319
              · have zc_31 := c_31
                rw [e_30, zz_in0, Int32.le_iff_toInt_le, Int32.le_iff_toInt_le] at zc_31
                try rw [show (48 : Int32).toInt = 48 from by decide] at zc_31
                try rw [show (57 : Int32).toInt = 57 from by decide] at zc_31
                have hsj : zz_so (cs (k + j)) = 2 := (zz_by2 (hcs (k + j) (by omega))).mpr (by omega)
                refine lv_aload_n hx hb dX8_next_241 rfl (lv_at hl 0 rfl) ?_
                refine lv_aload_n hx hb dX8_next_242 rfl (lv_at hl 0 rfl) ?_
                refine va_get (D := (dC, dI)) (ci := 8) (v := .int td) (C := RX8) (T := TX8) (N := 49) hx hb hw zz_inX8 hown hK hP 0 rfl rfl 5 (by decide) (hw _ tw_303) (fun _ h9 => h9) rfl dX8_next_243 ?_
                refine lv_ldc (v := 99999) hx hb hown (hw _ tw_304) dX8_next_246 ?_
                refine lv_icmp_le (tgt := 258) hx hb dX8_next_248 (by decide) (fun c_32 => ?_) (fun c_32 => ?_)
                · have zc_32 := c_32
                  rw [Int32.le_iff_toInt_le] at zc_32
                  try rw [show (99999 : Int32).toInt = 99999 from by decide] at zc_32
                  refine lv_bipush (v := 10) hx hb dX8_next_258 (by decide) ?_
                  refine lv_aload_n hx hb dX8_next_260 rfl (lv_at hl 0 rfl) ?_
                  refine va_get (D := (dC, dI)) (ci := 8) (v := .int td) (C := RX8) (T := TX8) (N := 49) hx hb hw zz_inX8 hown hK hP 0 rfl rfl 5 (by decide) (hw _ tw_303) (fun _ h9 => h9) rfl dX8_next_261 ?_
                  refine lv_imul hx hb dX8_next_264 ?_
                  refine lv_aload_n hx hb dX8_next_265 rfl (lv_at hl 0 rfl) ?_
                  refine va_get (D := (dC, dI)) (ci := 8) (v := .ref (b 1)) (C := RX8) (T := TX8) (N := 49) hx hb hw zz_inX8 hown hK hP 0 rfl rfl 0 (by decide) (hw _ tw_191) (fun _ h9 => h9) rfl dX8_next_266 ?_
                  refine lv_aload_n hx hb dX8_next_269 rfl (lv_at hl 0 rfl) ?_
                  refine va_get (D := (dC, dI)) (ci := 8) (v := .int (nI (k + j))) (C := RX8) (T := TX8) (N := 49) hx hb hw zz_inX8 hown hK hP 0 rfl rfl 2 (by decide) (hw _ tw_296) (fun _ h9 => h9) rfl dX8_next_270 ?_
                  refine va_bald hx hb hK hP 1 0 rfl rfl (vp_in_iff.mpr (by rw [zz_toInt (k + j) (by omega)]; constructor <;> omega)) dX8_next_273 ?_
                  refine zz_seti (ta (k + j)) (congrArg ta (zz_cl (by omega))) ?_
                  refine lv_iadd hx hb dX8_next_274 ?_
                  refine lv_bipush (v := 48) hx hb dX8_next_275 (by decide) ?_
                  refine lv_isub hx hb dX8_next_277 ?_
                  refine va_put (D := (dC, dI)) (ci := 8) (v := .int (((10 * td) + (ta (k + j))) - 48)) (ty := .int) (C := RX8) (T := TX8) (N := 49) hx hb hw zz_inX8 tyX8 tyX8_ok nmX8 hown hK hP hD hS 0 rfl rfl 5 (by decide) (hw _ tw_303) (fun _ h9 => h9) rfl (by decide +kernel) rfl rfl (Nat.le_of_ble_eq_true rfl) dX8_next_278 (fun H locs hP hD hS => ?_)
                  obtain ⟨hP, hD⟩ := zz_ty (D := (dC, dI)) (cl := vwCl) (A := A) (H := H) [(b 0, .inr (8, [.ref (b 1), .int (nI mt), .int (nI (k + j)), .int (nI k), .int 2, .int (((10 * td) + (ta (k + j))) - 48), .int wr, .int wa, .int (gg 8), .int (gg 9), .ref (b 11), .ref (b 12), .ref (b 13), .int (nI mc), .int (nI mh), .ref (b 16), .ref (b 17), .ref (b 18), .ref (b 19), .ref (b 20), .ref (b 21), .ref (b 22), .ref (b 23), .ref (b 24), .int (nI mf), .ref (b 26), .ref (b 27), .ref (b 28), .ref (b 29), .ref (b 30), .ref (b 31), .ref (b 32), .int (gg 32), .int (nI md), .ref (b 35), .ref (b 36), .ref (b 37), .ref (b 38), .ref (b 39), .ref (b 40), .int (gg 40), .ref (b 42), .ref (b 43), .ref (b 44), .int (gg 44), .ref (b 46), .ref (b 47), .int (gg 47), .ref (b 49)])), (b 1, .inl (cB, 200, .inl ta))] hP hD rfl
                  refine lv_aload_n hx hb dX8_next_281 rfl (lv_at hl 0 rfl) ?_
                  refine lv_dup hx hb dX8_next_282 rfl ?_
                  refine va_get (D := (dC, dI)) (ci := 8) (v := .int (nI (k + j))) (C := RX8) (T := TX8) (N := 49) hx hb hw zz_inX8 hown hK hP 0 rfl rfl 2 (by decide) (hw _ tw_296) (fun _ h9 => h9) rfl dX8_next_283 ?_
                  refine lv_iconst (v := 1) hx hb dX8_next_286 (by decide) ?_
                  refine lv_iadd hx hb dX8_next_287 ?_
                  refine zz_seti (nI ((k + j) + 1)) (nI_1 _) ?_
                  refine va_put (D := (dC, dI)) (ci := 8) (v := .int (nI ((k + j) + 1))) (ty := .int) (C := RX8) (T := TX8) (N := 49) hx hb hw zz_inX8 tyX8 tyX8_ok nmX8 hown hK hP hD hS 0 rfl rfl 2 (by decide) (hw _ tw_296) (fun _ h9 => h9) rfl (by decide +kernel) rfl rfl (Nat.le_of_ble_eq_true rfl) dX8_next_288 (fun H locs hP hD hS => ?_)
                  obtain ⟨hP, hD⟩ := zz_ty (D := (dC, dI)) (cl := vwCl) (A := A) (H := H) [(b 0, .inr (8, [.ref (b 1), .int (nI mt), .int (nI ((k + j) + 1)), .int (nI k), .int 2, .int (((10 * td) + (ta (k + j))) - 48), .int wr, .int wa, .int (gg 8), .int (gg 9), .ref (b 11), .ref (b 12), .ref (b 13), .int (nI mc), .int (nI mh), .ref (b 16), .ref (b 17), .ref (b 18), .ref (b 19), .ref (b 20), .ref (b 21), .ref (b 22), .ref (b 23), .ref (b 24), .int (nI mf), .ref (b 26), .ref (b 27), .ref (b 28), .ref (b 29), .ref (b 30), .ref (b 31), .ref (b 32), .int (gg 32), .int (nI md), .ref (b 35), .ref (b 36), .ref (b 37), .ref (b 38), .ref (b 39), .ref (b 40), .int (gg 40), .ref (b 42), .ref (b 43), .ref (b 44), .int (gg 44), .ref (b 46), .ref (b 47), .int (gg 47), .ref (b 49)])), (b 1, .inl (cB, 200, .inl ta))] hP hD rfl
                  refine lv_goto (tgt := 211) hx hb dX8_next_291 (by decide) ?_
                  exact ih_211 ((j + 1), (((10 * td) + (ta (k + j))) - 48)) ⟨by omega, zz_run_ext ij2 hsj, (by have h8 := zz_tn_step it (by omega) hsj; rw [zz_by_eq (hcs _ (by omega)) (Or.inr hsj)] at h8; exact h8)⟩ (show ml - (k + (j + 1)) < ml - (k + j) from by omega) _ _ _ (hP.sub [0, 1] rfl) (hD.sub [0, 1] (by decide) rfl) hS (lv_sub hl [0, 1, 2] rfl)
                · have zc_32 := c_32
                  rw [Int32.le_iff_toInt_le] at zc_32
                  try rw [show (99999 : Int32).toInt = 99999 from by decide] at zc_32
                  refine lv_aload_n hx hb dX8_next_251 rfl (lv_at hl 0 rfl) ?_
                  refine va_get (D := (dC, dI)) (ci := 8) (v := .int td) (C := RX8) (T := TX8) (N := 49) hx hb hw zz_inX8 hown hK hP 0 rfl rfl 5 (by decide) (hw _ tw_303) (fun _ h9 => h9) rfl dX8_next_252 ?_
                  refine lv_goto (tgt := 278) hx hb dX8_next_255 (by decide) ?_
                  refine va_put (D := (dC, dI)) (ci := 8) (v := .int td) (ty := .int) (C := RX8) (T := TX8) (N := 49) hx hb hw zz_inX8 tyX8 tyX8_ok nmX8 hown hK hP hD hS 0 rfl rfl 5 (by decide) (hw _ tw_303) (fun _ h9 => h9) rfl (by decide +kernel) rfl rfl (Nat.le_of_ble_eq_true rfl) dX8_next_278 (fun H locs hP hD hS => ?_)
                  obtain ⟨hP, hD⟩ := zz_ty (D := (dC, dI)) (cl := vwCl) (A := A) (H := H) [(b 0, .inr (8, [.ref (b 1), .int (nI mt), .int (nI (k + j)), .int (nI k), .int 2, .int td, .int wr, .int wa, .int (gg 8), .int (gg 9), .ref (b 11), .ref (b 12), .ref (b 13), .int (nI mc), .int (nI mh), .ref (b 16), .ref (b 17), .ref (b 18), .ref (b 19), .ref (b 20), .ref (b 21), .ref (b 22), .ref (b 23), .ref (b 24), .int (nI mf), .ref (b 26), .ref (b 27), .ref (b 28), .ref (b 29), .ref (b 30), .ref (b 31), .ref (b 32), .int (gg 32), .int (nI md), .ref (b 35), .ref (b 36), .ref (b 37), .ref (b 38), .ref (b 39), .ref (b 40), .int (gg 40), .ref (b 42), .ref (b 43), .ref (b 44), .int (gg 44), .ref (b 46), .ref (b 47), .int (gg 47), .ref (b 49)])), (b 1, .inl (cB, 200, .inl ta))] hP hD rfl
                  refine lv_aload_n hx hb dX8_next_281 rfl (lv_at hl 0 rfl) ?_
                  refine lv_dup hx hb dX8_next_282 rfl ?_
                  refine va_get (D := (dC, dI)) (ci := 8) (v := .int (nI (k + j))) (C := RX8) (T := TX8) (N := 49) hx hb hw zz_inX8 hown hK hP 0 rfl rfl 2 (by decide) (hw _ tw_296) (fun _ h9 => h9) rfl dX8_next_283 ?_
                  refine lv_iconst (v := 1) hx hb dX8_next_286 (by decide) ?_
                  refine lv_iadd hx hb dX8_next_287 ?_
                  refine zz_seti (nI ((k + j) + 1)) (nI_1 _) ?_
                  refine va_put (D := (dC, dI)) (ci := 8) (v := .int (nI ((k + j) + 1))) (ty := .int) (C := RX8) (T := TX8) (N := 49) hx hb hw zz_inX8 tyX8 tyX8_ok nmX8 hown hK hP hD hS 0 rfl rfl 2 (by decide) (hw _ tw_296) (fun _ h9 => h9) rfl (by decide +kernel) rfl rfl (Nat.le_of_ble_eq_true rfl) dX8_next_288 (fun H locs hP hD hS => ?_)
                  obtain ⟨hP, hD⟩ := zz_ty (D := (dC, dI)) (cl := vwCl) (A := A) (H := H) [(b 0, .inr (8, [.ref (b 1), .int (nI mt), .int (nI ((k + j) + 1)), .int (nI k), .int 2, .int td, .int wr, .int wa, .int (gg 8), .int (gg 9), .ref (b 11), .ref (b 12), .ref (b 13), .int (nI mc), .int (nI mh), .ref (b 16), .ref (b 17), .ref (b 18), .ref (b 19), .ref (b 20), .ref (b 21), .ref (b 22), .ref (b 23), .ref (b 24), .int (nI mf), .ref (b 26), .ref (b 27), .ref (b 28), .ref (b 29), .ref (b 30), .ref (b 31), .ref (b 32), .int (gg 32), .int (nI md), .ref (b 35), .ref (b 36), .ref (b 37), .ref (b 38), .ref (b 39), .ref (b 40), .int (gg 40), .ref (b 42), .ref (b 43), .ref (b 44), .int (gg 44), .ref (b 46), .ref (b 47), .int (gg 47), .ref (b 49)])), (b 1, .inl (cB, 200, .inl ta))] hP hD rfl
                  refine lv_goto (tgt := 211) hx hb dX8_next_291 (by decide) ?_
                  exact ih_211 ((j + 1), td) ⟨by omega, zz_run_ext ij2 hsj, zz_tn_keep it (by omega) hsj⟩ (show ml - (k + (j + 1)) < ml - (k + j) from by omega) _ _ _ (hP.sub [0, 1] rfl) (hD.sub [0, 1] (by decide) rfl) hS (lv_sub hl [0, 1, 2] rfl)
        · have zc_25 := c_25
          rw [← Int32.toInt_inj] at zc_25
          try rw [show (0 : Int32).toInt = 0 from by decide] at zc_25
          have hs1 : zz_so (cs k) = 1 := (zz_by1 (hcs k (by omega))).mpr (zz_il1 e_24 c_25)
          refine lv_lconst (v := Int32.toInt64 0) hx hb dX8_next_74 (by decide) ?_
          refine lv_lstore_n (lv' := [(3, .long (Int32.toInt64 0)), (2, .int (ta k)), (0, .ref (b 0)), (1, .int (nI ml))]) hx hb dX8_next_75 rfl hl (by decide) rfl (fun ls hl => ?_)
          refine lv_iconst (v := 0) hx hb dX8_next_76 (by decide) ?_
          refine lv_istore (lv' := [(5, .int 0), (3, .long (Int32.toInt64 0)), (2, .int (ta k)), (0, .ref (b 0)), (1, .int (nI ml))]) hx hb dX8_next_77 hl (by decide) rfl (fun ls hl => ?_)
          refine zz_loopS (fun (u : (Nat) × (Int64)) => match u with | (j, y) => [(b 0, .inr (8, [.ref (b 1), .int (nI mt), .int (nI (k + j)), .int (nI k), .int so, .int tl, .int wr, .int wa, .int (gg 8), .int (gg 9), .ref (b 11), .ref (b 12), .ref (b 13), .int (nI mc), .int (nI mh), .ref (b 16), .ref (b 17), .ref (b 18), .ref (b 19), .ref (b 20), .ref (b 21), .ref (b 22), .ref (b 23), .ref (b 24), .int (nI mf), .ref (b 26), .ref (b 27), .ref (b 28), .ref (b 29), .ref (b 30), .ref (b 31), .ref (b 32), .int (gg 32), .int (nI md), .ref (b 35), .ref (b 36), .ref (b 37), .ref (b 38), .ref (b 39), .ref (b 40), .int (gg 40), .ref (b 42), .ref (b 43), .ref (b 44), .int (gg 44), .ref (b 46), .ref (b 47), .int (gg 47), .ref (b 49)])), (b 1, .inl (cB, 200, .inl ta))]) (fun (u : (Nat) × (Int64)) => match u with | (j, y) => [(0, .ref (b 0)), (1, .int (nI ml)), (2, .int (ta k)), (3, .long y), (5, .int (nI j))]) (fun (u : (Nat) × (Int64)) => match u with | (j, y) => k + j ≤ ml ∧ zz_run cs 1 k j ∧ (j ≤ 8 → Int64.toInt y = zz_cd cs k j)) (fun (u : (Nat) × (Int64)) => match u with | (j, y) => ml - (k + j)) (fun u hI H locs ls hP hD hS hl ih_79 => ?_) (0, Int32.toInt64 0) ⟨by omega, (fun i hi => absurd hi (by omega)), fun _ => by rw [zz_cd]; decide⟩ _ _ _ (hP.sub [0, 1] rfl) (hD.sub [0, 1] (by decide) rfl) hS (lv_sub hl [3, 4, 2, 1, 0] rfl)
          obtain ⟨j, y⟩ := u
          obtain ⟨hP, hD⟩ := zz_ty (D := (dC, dI)) (cl := vwCl) (A := A) (H := H) [(b 0, .inr (8, [.ref (b 1), .int (nI mt), .int (nI (k + j)), .int (nI k), .int so, .int tl, .int wr, .int wa, .int (gg 8), .int (gg 9), .ref (b 11), .ref (b 12), .ref (b 13), .int (nI mc), .int (nI mh), .ref (b 16), .ref (b 17), .ref (b 18), .ref (b 19), .ref (b 20), .ref (b 21), .ref (b 22), .ref (b 23), .ref (b 24), .int (nI mf), .ref (b 26), .ref (b 27), .ref (b 28), .ref (b 29), .ref (b 30), .ref (b 31), .ref (b 32), .int (gg 32), .int (nI md), .ref (b 35), .ref (b 36), .ref (b 37), .ref (b 38), .ref (b 39), .ref (b 40), .int (gg 40), .ref (b 42), .ref (b 43), .ref (b 44), .int (gg 44), .ref (b 46), .ref (b 47), .int (gg 47), .ref (b 49)])), (b 1, .inl (cB, 200, .inl ta))] hP hD rfl
          have hl : lv_has ls 6 [(0, .ref (b 0)), (1, .int (nI ml)), (2, .int (ta k)), (3, .long y), (5, .int (nI j))] := hl
          have hI : k + j ≤ ml ∧ zz_run cs 1 k j ∧ (j ≤ 8 → Int64.toInt y = zz_cd cs k j) := hI
          obtain ⟨ij0, ij2, iy⟩ := hI
          refine lv_aload_n hx hb dX8_next_79 rfl (lv_at hl 0 rfl) ?_
          refine va_get (D := (dC, dI)) (ci := 8) (v := .int (nI (k + j))) (C := RX8) (T := TX8) (N := 49) hx hb hw zz_inX8 hown hK hP 0 rfl rfl 2 (by decide) (hw _ tw_296) (fun _ h9 => h9) rfl dX8_next_80 ?_
          refine lv_iload_n hx hb dX8_next_83 rfl (lv_at hl 1 rfl) ?_
          refine lv_icmp_ge (tgt := 150) hx hb dX8_next_84 (by decide) (fun c_33 => ?_) (fun c_33 => ?_)
          · have zc_33 := c_33
            rw [Int32.le_iff_toInt_le] at zc_33
            try rw [zz_toInt (k + j) (by omega)] at zc_33
            try rw [zz_toInt ml (by omega)] at zc_33
            have hend : ¬ zz_so (cs (k + j)) = 1 := by rw [hce _ (by omega)]; decide
            have hj1 := zz_pos1 hs1 hend
            refine lv_aload_n hx hb dX8_next_150 rfl (lv_at hl 0 rfl) ?_
            refine lv_iload hx hb dX8_next_151 (lv_at hl 4 rfl) ?_
            refine lv_iconst (v := 5) hx hb dX8_next_153 (by decide) ?_
            refine lv_icmp_le (tgt := 161) hx hb dX8_next_154 (by decide) (fun c_34 => ?_) (fun c_34 => ?_)
            · have zc_34 := c_34
              rw [Int32.le_iff_toInt_le] at zc_34
              try rw [zz_toInt j (by omega)] at zc_34
              try rw [show (5 : Int32).toInt = 5 from by decide] at zc_34
              refine lv_lload_n hx hb dX8_next_161 rfl (lv_at hl 3 rfl) ?_
              obtain ⟨hPc, hDc⟩ := zz_sub2 (ws' := []) hP hD [] (by decide) rfl
              have hKc := hK.sub (tys' := []) [] rfl
              have hFc := zz_free0 hS hA
              refine va_calli (va_runS (As := [.long y]) (rest := [.ref (b 0)]) ⟨hx, hb, hml, hown, hw⟩ (mx_wordOf l dC dI y H.size) ⟨callB_of 1 hw (zz_good tw_305) rfl rfl rfl (hw _ tw_184) (hw _ tw_306) (by decide +kernel) ⟨Nat.le_of_ble_eq_true rfl, Nat.le_of_ble_eq_true rfl⟩, (hw _ tw_307)⟩ ⟨zz_blind, zz_pre hPc hKc hDc hN⟩ rfl rfl hl.1 rfl (lv_room (Nat.le_of_ble_eq_true rfl)) dX8_next_162 ⟨Nat.le_of_ble_eq_true rfl, Nat.le_of_ble_eq_true rfl⟩) hS (fun q _ h => hFc q h) hFc (fun r_35 u_35 t H1 locs ht hvm e_35 hB hz1 hk1 hS => ?_)
              try dsimp only at e_35
              have hP := zz_keep hP hk1
              clear hk1 hB ht hvm
              generalize H1 = H at hP hS ⊢
              rcases e_35 with ⟨er_35, hn_35⟩ | ⟨qw_35, hq_35, er_35, hc_35⟩
              · refine zz_seti (-1) er_35 ?_
                refine va_put (D := (dC, dI)) (ci := 8) (v := .int (-1)) (ty := .int) (C := RX8) (T := TX8) (N := 49) hx hb hw zz_inX8 tyX8 tyX8_ok nmX8 hown hK hP hD hS 0 rfl rfl 5 (by decide) (hw _ tw_303) (fun _ h9 => h9) rfl (by decide +kernel) rfl rfl (Nat.le_of_ble_eq_true rfl) dX8_next_165 (fun H locs hP hD hS => ?_)
                obtain ⟨hP, hD⟩ := zz_ty (D := (dC, dI)) (cl := vwCl) (A := A) (H := H) [(b 0, .inr (8, [.ref (b 1), .int (nI mt), .int (nI (k + j)), .int (nI k), .int so, .int (-1), .int wr, .int wa, .int (gg 8), .int (gg 9), .ref (b 11), .ref (b 12), .ref (b 13), .int (nI mc), .int (nI mh), .ref (b 16), .ref (b 17), .ref (b 18), .ref (b 19), .ref (b 20), .ref (b 21), .ref (b 22), .ref (b 23), .ref (b 24), .int (nI mf), .ref (b 26), .ref (b 27), .ref (b 28), .ref (b 29), .ref (b 30), .ref (b 31), .ref (b 32), .int (gg 32), .int (nI md), .ref (b 35), .ref (b 36), .ref (b 37), .ref (b 38), .ref (b 39), .ref (b 40), .int (gg 40), .ref (b 42), .ref (b 43), .ref (b 44), .int (gg 44), .ref (b 46), .ref (b 47), .int (gg 47), .ref (b 49)])), (b 1, .inl (cB, 200, .inl ta))] hP hD rfl
                refine lv_aload_n hx hb dX8_next_168 rfl (lv_at hl 0 rfl) ?_
                refine lv_aload_n hx hb dX8_next_169 rfl (lv_at hl 0 rfl) ?_
                refine va_get (D := (dC, dI)) (ci := 8) (v := .int (-1)) (C := RX8) (T := TX8) (N := 49) hx hb hw zz_inX8 hown hK hP 0 rfl rfl 5 (by decide) (hw _ tw_303) (fun _ h9 => h9) rfl dX8_next_170 ?_
                refine lv_if_ge (tgt := 180) hx hb dX8_next_173 (by decide) (fun c_9 => absurd c_9 (by decide)) (fun _ => ?_)
                refine lv_iconst (v := 4) hx hb dX8_next_176 (by decide) ?_
                refine lv_goto (tgt := 181) hx hb dX8_next_177 (by decide) ?_
                refine va_put (D := (dC, dI)) (ci := 8) (v := .int 4) (ty := .int) (C := RX8) (T := TX8) (N := 49) hx hb hw zz_inX8 tyX8 tyX8_ok nmX8 hown hK hP hD hS 0 rfl rfl 4 (by decide) (hw _ tw_302) (fun _ h9 => h9) rfl (by decide +kernel) rfl rfl (Nat.le_of_ble_eq_true rfl) dX8_next_181 (fun H locs hP hD hS => ?_)
                obtain ⟨hP, hD⟩ := zz_ty (D := (dC, dI)) (cl := vwCl) (A := A) (H := H) [(b 0, .inr (8, [.ref (b 1), .int (nI mt), .int (nI (k + j)), .int (nI k), .int 4, .int (-1), .int wr, .int wa, .int (gg 8), .int (gg 9), .ref (b 11), .ref (b 12), .ref (b 13), .int (nI mc), .int (nI mh), .ref (b 16), .ref (b 17), .ref (b 18), .ref (b 19), .ref (b 20), .ref (b 21), .ref (b 22), .ref (b 23), .ref (b 24), .int (nI mf), .ref (b 26), .ref (b 27), .ref (b 28), .ref (b 29), .ref (b 30), .ref (b 31), .ref (b 32), .int (gg 32), .int (nI md), .ref (b 35), .ref (b 36), .ref (b 37), .ref (b 38), .ref (b 39), .ref (b 40), .int (gg 40), .ref (b 42), .ref (b 43), .ref (b 44), .int (gg 44), .ref (b 46), .ref (b 47), .int (gg 47), .ref (b 49)])), (b 1, .inl (cB, 200, .inl ta))] hP hD rfl
                refine lv_goto (tgt := 319) hx hb dX8_next_184 (by decide) ?_
                obtain ⟨hP9, hD9⟩ := zz_sub2 (ws' := [(b 0, .inr (8, [.ref (b 1), .int (nI mt), .int (nI (k + j)), .int (nI k), .int 4, .int (-1), .int wr, .int wa, .int (gg 8), .int (gg 9), .ref (b 11), .ref (b 12), .ref (b 13), .int (nI mc), .int (nI mh), .ref (b 16), .ref (b 17), .ref (b 18), .ref (b 19), .ref (b 20), .ref (b 21), .ref (b 22), .ref (b 23), .ref (b 24), .int (nI mf), .ref (b 26), .ref (b 27), .ref (b 28), .ref (b 29), .ref (b 30), .ref (b 31), .ref (b 32), .int (gg 32), .int (nI md), .ref (b 35), .ref (b 36), .ref (b 37), .ref (b 38), .ref (b 39), .ref (b 40), .int (gg 40), .ref (b 42), .ref (b 43), .ref (b 44), .int (gg 44), .ref (b 46), .ref (b 47), .int (gg 47), .ref (b 49)])), (b 1, .inl (cB, 200, .inl ta))]) hP hD [0, 1] (by decide) rfl
                have hK9 := hK.sub (tys' := [(cB, .byte)]) [0] rfl
                exact W.vret hx hb hr (fun t ht hW => ⟨⟨((k + j), (nI k), 4, (-1)), rfl, ⟨k, by omega, by omega, rfl, ib, Or.inr (Or.inl ⟨by omega, hs1, ⟨j, hj1, rfl, by omega, ij2, hend⟩, Or.inl ⟨zz_wd_no ij2 hend (fun w hw => by rw [← iy (by omega)]; exact hn_35 w hw), rfl⟩⟩)⟩, by rw [ht]; exact hP9, va_K.moved hW.alike hK9, hD9⟩, hS.F ht⟩) hS.2.2 dX8_next_319
              · refine zz_seti (nI qw_35) er_35 ?_
                refine va_put (D := (dC, dI)) (ci := 8) (v := .int (nI qw_35)) (ty := .int) (C := RX8) (T := TX8) (N := 49) hx hb hw zz_inX8 tyX8 tyX8_ok nmX8 hown hK hP hD hS 0 rfl rfl 5 (by decide) (hw _ tw_303) (fun _ h9 => h9) rfl (by decide +kernel) rfl rfl (Nat.le_of_ble_eq_true rfl) dX8_next_165 (fun H locs hP hD hS => ?_)
                obtain ⟨hP, hD⟩ := zz_ty (D := (dC, dI)) (cl := vwCl) (A := A) (H := H) [(b 0, .inr (8, [.ref (b 1), .int (nI mt), .int (nI (k + j)), .int (nI k), .int so, .int (nI qw_35), .int wr, .int wa, .int (gg 8), .int (gg 9), .ref (b 11), .ref (b 12), .ref (b 13), .int (nI mc), .int (nI mh), .ref (b 16), .ref (b 17), .ref (b 18), .ref (b 19), .ref (b 20), .ref (b 21), .ref (b 22), .ref (b 23), .ref (b 24), .int (nI mf), .ref (b 26), .ref (b 27), .ref (b 28), .ref (b 29), .ref (b 30), .ref (b 31), .ref (b 32), .int (gg 32), .int (nI md), .ref (b 35), .ref (b 36), .ref (b 37), .ref (b 38), .ref (b 39), .ref (b 40), .int (gg 40), .ref (b 42), .ref (b 43), .ref (b 44), .int (gg 44), .ref (b 46), .ref (b 47), .int (gg 47), .ref (b 49)])), (b 1, .inl (cB, 200, .inl ta))] hP hD rfl
                refine lv_aload_n hx hb dX8_next_168 rfl (lv_at hl 0 rfl) ?_
                refine lv_aload_n hx hb dX8_next_169 rfl (lv_at hl 0 rfl) ?_
                refine va_get (D := (dC, dI)) (ci := 8) (v := .int (nI qw_35)) (C := RX8) (T := TX8) (N := 49) hx hb hw zz_inX8 hown hK hP 0 rfl rfl 5 (by decide) (hw _ tw_303) (fun _ h9 => h9) rfl dX8_next_170 ?_
                refine lv_if_ge (tgt := 180) hx hb dX8_next_173 (by decide) (fun _ => ?_) (fun c_36 => absurd c_36 (fun h9 => h9 (by rw [Int32.le_iff_toInt_le, zz_toInt qw_35 (by omega), show (0 : Int32).toInt = 0 from by decide]; omega)))
                refine lv_iconst (v := 1) hx hb dX8_next_180 (by decide) ?_
                refine va_put (D := (dC, dI)) (ci := 8) (v := .int 1) (ty := .int) (C := RX8) (T := TX8) (N := 49) hx hb hw zz_inX8 tyX8 tyX8_ok nmX8 hown hK hP hD hS 0 rfl rfl 4 (by decide) (hw _ tw_302) (fun _ h9 => h9) rfl (by decide +kernel) rfl rfl (Nat.le_of_ble_eq_true rfl) dX8_next_181 (fun H locs hP hD hS => ?_)
                obtain ⟨hP, hD⟩ := zz_ty (D := (dC, dI)) (cl := vwCl) (A := A) (H := H) [(b 0, .inr (8, [.ref (b 1), .int (nI mt), .int (nI (k + j)), .int (nI k), .int 1, .int (nI qw_35), .int wr, .int wa, .int (gg 8), .int (gg 9), .ref (b 11), .ref (b 12), .ref (b 13), .int (nI mc), .int (nI mh), .ref (b 16), .ref (b 17), .ref (b 18), .ref (b 19), .ref (b 20), .ref (b 21), .ref (b 22), .ref (b 23), .ref (b 24), .int (nI mf), .ref (b 26), .ref (b 27), .ref (b 28), .ref (b 29), .ref (b 30), .ref (b 31), .ref (b 32), .int (gg 32), .int (nI md), .ref (b 35), .ref (b 36), .ref (b 37), .ref (b 38), .ref (b 39), .ref (b 40), .int (gg 40), .ref (b 42), .ref (b 43), .ref (b 44), .int (gg 44), .ref (b 46), .ref (b 47), .int (gg 47), .ref (b 49)])), (b 1, .inl (cB, 200, .inl ta))] hP hD rfl
                refine lv_goto (tgt := 319) hx hb dX8_next_184 (by decide) ?_
                obtain ⟨hP9, hD9⟩ := zz_sub2 (ws' := [(b 0, .inr (8, [.ref (b 1), .int (nI mt), .int (nI (k + j)), .int (nI k), .int 1, .int (nI qw_35), .int wr, .int wa, .int (gg 8), .int (gg 9), .ref (b 11), .ref (b 12), .ref (b 13), .int (nI mc), .int (nI mh), .ref (b 16), .ref (b 17), .ref (b 18), .ref (b 19), .ref (b 20), .ref (b 21), .ref (b 22), .ref (b 23), .ref (b 24), .int (nI mf), .ref (b 26), .ref (b 27), .ref (b 28), .ref (b 29), .ref (b 30), .ref (b 31), .ref (b 32), .int (gg 32), .int (nI md), .ref (b 35), .ref (b 36), .ref (b 37), .ref (b 38), .ref (b 39), .ref (b 40), .int (gg 40), .ref (b 42), .ref (b 43), .ref (b 44), .int (gg 44), .ref (b 46), .ref (b 47), .int (gg 47), .ref (b 49)])), (b 1, .inl (cB, 200, .inl ta))]) hP hD [0, 1] (by decide) rfl
                have hK9 := hK.sub (tys' := [(cB, .byte)]) [0] rfl
                exact W.vret hx hb hr (fun t ht hW => ⟨⟨((k + j), (nI k), 1, (nI qw_35)), rfl, ⟨k, by omega, by omega, rfl, ib, Or.inr (Or.inl ⟨by omega, hs1, ⟨j, hj1, rfl, by omega, ij2, hend⟩, Or.inr ⟨qw_35, hq_35, zz_wd_hit hq_35 ij2 hend (by rw [← iy (by omega)]; exact hc_35), rfl, rfl⟩⟩)⟩, by rw [ht]; exact hP9, va_K.moved hW.alike hK9, hD9⟩, hS.F ht⟩) hS.2.2 dX8_next_319
            · have zc_34 := c_34
              rw [Int32.le_iff_toInt_le] at zc_34
              try rw [zz_toInt j (by omega)] at zc_34
              try rw [show (5 : Int32).toInt = 5 from by decide] at zc_34
              refine lv_iconst (v := (-1)) hx hb dX8_next_157 (by decide) ?_
              refine lv_goto (tgt := 165) hx hb dX8_next_158 (by decide) ?_
              refine va_put (D := (dC, dI)) (ci := 8) (v := .int (-1)) (ty := .int) (C := RX8) (T := TX8) (N := 49) hx hb hw zz_inX8 tyX8 tyX8_ok nmX8 hown hK hP hD hS 0 rfl rfl 5 (by decide) (hw _ tw_303) (fun _ h9 => h9) rfl (by decide +kernel) rfl rfl (Nat.le_of_ble_eq_true rfl) dX8_next_165 (fun H locs hP hD hS => ?_)
              obtain ⟨hP, hD⟩ := zz_ty (D := (dC, dI)) (cl := vwCl) (A := A) (H := H) [(b 0, .inr (8, [.ref (b 1), .int (nI mt), .int (nI (k + j)), .int (nI k), .int so, .int (-1), .int wr, .int wa, .int (gg 8), .int (gg 9), .ref (b 11), .ref (b 12), .ref (b 13), .int (nI mc), .int (nI mh), .ref (b 16), .ref (b 17), .ref (b 18), .ref (b 19), .ref (b 20), .ref (b 21), .ref (b 22), .ref (b 23), .ref (b 24), .int (nI mf), .ref (b 26), .ref (b 27), .ref (b 28), .ref (b 29), .ref (b 30), .ref (b 31), .ref (b 32), .int (gg 32), .int (nI md), .ref (b 35), .ref (b 36), .ref (b 37), .ref (b 38), .ref (b 39), .ref (b 40), .int (gg 40), .ref (b 42), .ref (b 43), .ref (b 44), .int (gg 44), .ref (b 46), .ref (b 47), .int (gg 47), .ref (b 49)])), (b 1, .inl (cB, 200, .inl ta))] hP hD rfl
              refine lv_aload_n hx hb dX8_next_168 rfl (lv_at hl 0 rfl) ?_
              refine lv_aload_n hx hb dX8_next_169 rfl (lv_at hl 0 rfl) ?_
              refine va_get (D := (dC, dI)) (ci := 8) (v := .int (-1)) (C := RX8) (T := TX8) (N := 49) hx hb hw zz_inX8 hown hK hP 0 rfl rfl 5 (by decide) (hw _ tw_303) (fun _ h9 => h9) rfl dX8_next_170 ?_
              refine lv_if_ge (tgt := 180) hx hb dX8_next_173 (by decide) (fun c_9 => absurd c_9 (by decide)) (fun _ => ?_)
              refine lv_iconst (v := 4) hx hb dX8_next_176 (by decide) ?_
              refine lv_goto (tgt := 181) hx hb dX8_next_177 (by decide) ?_
              refine va_put (D := (dC, dI)) (ci := 8) (v := .int 4) (ty := .int) (C := RX8) (T := TX8) (N := 49) hx hb hw zz_inX8 tyX8 tyX8_ok nmX8 hown hK hP hD hS 0 rfl rfl 4 (by decide) (hw _ tw_302) (fun _ h9 => h9) rfl (by decide +kernel) rfl rfl (Nat.le_of_ble_eq_true rfl) dX8_next_181 (fun H locs hP hD hS => ?_)
              obtain ⟨hP, hD⟩ := zz_ty (D := (dC, dI)) (cl := vwCl) (A := A) (H := H) [(b 0, .inr (8, [.ref (b 1), .int (nI mt), .int (nI (k + j)), .int (nI k), .int 4, .int (-1), .int wr, .int wa, .int (gg 8), .int (gg 9), .ref (b 11), .ref (b 12), .ref (b 13), .int (nI mc), .int (nI mh), .ref (b 16), .ref (b 17), .ref (b 18), .ref (b 19), .ref (b 20), .ref (b 21), .ref (b 22), .ref (b 23), .ref (b 24), .int (nI mf), .ref (b 26), .ref (b 27), .ref (b 28), .ref (b 29), .ref (b 30), .ref (b 31), .ref (b 32), .int (gg 32), .int (nI md), .ref (b 35), .ref (b 36), .ref (b 37), .ref (b 38), .ref (b 39), .ref (b 40), .int (gg 40), .ref (b 42), .ref (b 43), .ref (b 44), .int (gg 44), .ref (b 46), .ref (b 47), .int (gg 47), .ref (b 49)])), (b 1, .inl (cB, 200, .inl ta))] hP hD rfl
              refine lv_goto (tgt := 319) hx hb dX8_next_184 (by decide) ?_
              obtain ⟨hP9, hD9⟩ := zz_sub2 (ws' := [(b 0, .inr (8, [.ref (b 1), .int (nI mt), .int (nI (k + j)), .int (nI k), .int 4, .int (-1), .int wr, .int wa, .int (gg 8), .int (gg 9), .ref (b 11), .ref (b 12), .ref (b 13), .int (nI mc), .int (nI mh), .ref (b 16), .ref (b 17), .ref (b 18), .ref (b 19), .ref (b 20), .ref (b 21), .ref (b 22), .ref (b 23), .ref (b 24), .int (nI mf), .ref (b 26), .ref (b 27), .ref (b 28), .ref (b 29), .ref (b 30), .ref (b 31), .ref (b 32), .int (gg 32), .int (nI md), .ref (b 35), .ref (b 36), .ref (b 37), .ref (b 38), .ref (b 39), .ref (b 40), .int (gg 40), .ref (b 42), .ref (b 43), .ref (b 44), .int (gg 44), .ref (b 46), .ref (b 47), .int (gg 47), .ref (b 49)])), (b 1, .inl (cB, 200, .inl ta))]) hP hD [0, 1] (by decide) rfl
              have hK9 := hK.sub (tys' := [(cB, .byte)]) [0] rfl
              exact W.vret hx hb hr (fun t ht hW => ⟨⟨((k + j), (nI k), 4, (-1)), rfl, ⟨k, by omega, by omega, rfl, ib, Or.inr (Or.inl ⟨by omega, hs1, ⟨j, hj1, rfl, by omega, ij2, hend⟩, Or.inl ⟨zz_wd_long ij2 hend (by omega), rfl⟩⟩)⟩, by rw [ht]; exact hP9, va_K.moved hW.alike hK9, hD9⟩, hS.F ht⟩) hS.2.2 dX8_next_319
          · have zc_33 := c_33
            rw [Int32.le_iff_toInt_le] at zc_33
            try rw [zz_toInt (k + j) (by omega)] at zc_33
            try rw [zz_toInt ml (by omega)] at zc_33
            refine lv_aload_n hx hb dX8_next_87 rfl (lv_at hl 0 rfl) ?_
            refine va_get (D := (dC, dI)) (ci := 8) (v := .ref (b 1)) (C := RX8) (T := TX8) (N := 49) hx hb hw zz_inX8 hown hK hP 0 rfl rfl 0 (by decide) (hw _ tw_191) (fun _ h9 => h9) rfl dX8_next_88 ?_
            refine lv_aload_n hx hb dX8_next_91 rfl (lv_at hl 0 rfl) ?_
            refine va_get (D := (dC, dI)) (ci := 8) (v := .int (nI (k + j))) (C := RX8) (T := TX8) (N := 49) hx hb hw zz_inX8 hown hK hP 0 rfl rfl 2 (by decide) (hw _ tw_296) (fun _ h9 => h9) rfl dX8_next_92 ?_
            refine va_bald hx hb hK hP 1 0 rfl rfl (vp_in_iff.mpr (by rw [zz_toInt (k + j) (by omega)]; constructor <;> omega)) dX8_next_95 ?_
            refine zz_seti (ta (k + j)) (congrArg ta (zz_cl (by omega))) ?_
            obtain ⟨hPc, hDc⟩ := zz_sub2 (ws' := []) hP hD [] (by decide) rfl
            have hKc := hK.sub (tys' := []) [] rfl
            have hFc := zz_free0 hS hA
            refine va_calli (va_runS (As := [.int (ta (k + j))]) (rest := []) ⟨hx, hb, hml, hown, hw⟩ (m_isLetter l dC dI (ta (k + j)) H.size) ⟨callB_of 1 hw (zz_good tw_297) rfl rfl rfl (hw _ tw_184) (hw _ tw_298) (by decide +kernel) ⟨Nat.le_of_ble_eq_true rfl, Nat.le_of_ble_eq_true rfl⟩, (hw _ tw_299)⟩ ⟨zz_blind, zz_pre hPc hKc hDc hN⟩ rfl rfl hl.1 rfl (lv_room (Nat.le_of_ble_eq_true rfl)) dX8_next_96 ⟨Nat.le_of_ble_eq_true rfl, Nat.le_of_ble_eq_true rfl⟩) hS (fun q _ h => hFc q h) hFc (fun r_37 u_37 t H1 locs ht hvm e_37 hB hz1 hk1 hS => ?_)
            try dsimp only at e_37
            have hP := zz_keep hP hk1
            clear hk1 hB ht hvm
            generalize H1 = H at hP hS ⊢
            refine lv_if_eq (tgt := 150) hx hb dX8_next_99 (by decide) (fun c_38 => ?_) (fun c_38 => ?_)
            · have zc_38 := c_38
              rw [← Int32.toInt_inj] at zc_38
              try rw [show (0 : Int32).toInt = 0 from by decide] at zc_38
              have hend : ¬ zz_so (cs (k + j)) = 1 := fun h9 => absurd ((zz_by1 (hcs (k + j) (by omega))).mp h9) (zz_il0 e_37 c_38)
              have hj1 := zz_pos1 hs1 hend
              refine lv_aload_n hx hb dX8_next_150 rfl (lv_at hl 0 rfl) ?_
              refine lv_iload hx hb dX8_next_151 (lv_at hl 4 rfl) ?_
              refine lv_iconst (v := 5) hx hb dX8_next_153 (by decide) ?_
              refine lv_icmp_le (tgt := 161) hx hb dX8_next_154 (by decide) (fun c_39 => ?_) (fun c_39 => ?_)
              · have zc_39 := c_39
                rw [Int32.le_iff_toInt_le] at zc_39
                try rw [zz_toInt j (by omega)] at zc_39
                try rw [show (5 : Int32).toInt = 5 from by decide] at zc_39
                refine lv_lload_n hx hb dX8_next_161 rfl (lv_at hl 3 rfl) ?_
                obtain ⟨hPc, hDc⟩ := zz_sub2 (ws' := []) hP hD [] (by decide) rfl
                have hKc := hK.sub (tys' := []) [] rfl
                have hFc := zz_free0 hS hA
                refine va_calli (va_runS (As := [.long y]) (rest := [.ref (b 0)]) ⟨hx, hb, hml, hown, hw⟩ (mx_wordOf l dC dI y H.size) ⟨callB_of 1 hw (zz_good tw_305) rfl rfl rfl (hw _ tw_184) (hw _ tw_306) (by decide +kernel) ⟨Nat.le_of_ble_eq_true rfl, Nat.le_of_ble_eq_true rfl⟩, (hw _ tw_307)⟩ ⟨zz_blind, zz_pre hPc hKc hDc hN⟩ rfl rfl hl.1 rfl (lv_room (Nat.le_of_ble_eq_true rfl)) dX8_next_162 ⟨Nat.le_of_ble_eq_true rfl, Nat.le_of_ble_eq_true rfl⟩) hS (fun q _ h => hFc q h) hFc (fun r_40 u_40 t H1 locs ht hvm e_40 hB hz1 hk1 hS => ?_)
                try dsimp only at e_40
                have hP := zz_keep hP hk1
                clear hk1 hB ht hvm
                generalize H1 = H at hP hS ⊢
                rcases e_40 with ⟨er_40, hn_40⟩ | ⟨qw_40, hq_40, er_40, hc_40⟩
                · refine zz_seti (-1) er_40 ?_
                  refine va_put (D := (dC, dI)) (ci := 8) (v := .int (-1)) (ty := .int) (C := RX8) (T := TX8) (N := 49) hx hb hw zz_inX8 tyX8 tyX8_ok nmX8 hown hK hP hD hS 0 rfl rfl 5 (by decide) (hw _ tw_303) (fun _ h9 => h9) rfl (by decide +kernel) rfl rfl (Nat.le_of_ble_eq_true rfl) dX8_next_165 (fun H locs hP hD hS => ?_)
                  obtain ⟨hP, hD⟩ := zz_ty (D := (dC, dI)) (cl := vwCl) (A := A) (H := H) [(b 0, .inr (8, [.ref (b 1), .int (nI mt), .int (nI (k + j)), .int (nI k), .int so, .int (-1), .int wr, .int wa, .int (gg 8), .int (gg 9), .ref (b 11), .ref (b 12), .ref (b 13), .int (nI mc), .int (nI mh), .ref (b 16), .ref (b 17), .ref (b 18), .ref (b 19), .ref (b 20), .ref (b 21), .ref (b 22), .ref (b 23), .ref (b 24), .int (nI mf), .ref (b 26), .ref (b 27), .ref (b 28), .ref (b 29), .ref (b 30), .ref (b 31), .ref (b 32), .int (gg 32), .int (nI md), .ref (b 35), .ref (b 36), .ref (b 37), .ref (b 38), .ref (b 39), .ref (b 40), .int (gg 40), .ref (b 42), .ref (b 43), .ref (b 44), .int (gg 44), .ref (b 46), .ref (b 47), .int (gg 47), .ref (b 49)])), (b 1, .inl (cB, 200, .inl ta))] hP hD rfl
                  refine lv_aload_n hx hb dX8_next_168 rfl (lv_at hl 0 rfl) ?_
                  refine lv_aload_n hx hb dX8_next_169 rfl (lv_at hl 0 rfl) ?_
                  refine va_get (D := (dC, dI)) (ci := 8) (v := .int (-1)) (C := RX8) (T := TX8) (N := 49) hx hb hw zz_inX8 hown hK hP 0 rfl rfl 5 (by decide) (hw _ tw_303) (fun _ h9 => h9) rfl dX8_next_170 ?_
                  refine lv_if_ge (tgt := 180) hx hb dX8_next_173 (by decide) (fun c_9 => absurd c_9 (by decide)) (fun _ => ?_)
                  refine lv_iconst (v := 4) hx hb dX8_next_176 (by decide) ?_
                  refine lv_goto (tgt := 181) hx hb dX8_next_177 (by decide) ?_
                  refine va_put (D := (dC, dI)) (ci := 8) (v := .int 4) (ty := .int) (C := RX8) (T := TX8) (N := 49) hx hb hw zz_inX8 tyX8 tyX8_ok nmX8 hown hK hP hD hS 0 rfl rfl 4 (by decide) (hw _ tw_302) (fun _ h9 => h9) rfl (by decide +kernel) rfl rfl (Nat.le_of_ble_eq_true rfl) dX8_next_181 (fun H locs hP hD hS => ?_)
                  obtain ⟨hP, hD⟩ := zz_ty (D := (dC, dI)) (cl := vwCl) (A := A) (H := H) [(b 0, .inr (8, [.ref (b 1), .int (nI mt), .int (nI (k + j)), .int (nI k), .int 4, .int (-1), .int wr, .int wa, .int (gg 8), .int (gg 9), .ref (b 11), .ref (b 12), .ref (b 13), .int (nI mc), .int (nI mh), .ref (b 16), .ref (b 17), .ref (b 18), .ref (b 19), .ref (b 20), .ref (b 21), .ref (b 22), .ref (b 23), .ref (b 24), .int (nI mf), .ref (b 26), .ref (b 27), .ref (b 28), .ref (b 29), .ref (b 30), .ref (b 31), .ref (b 32), .int (gg 32), .int (nI md), .ref (b 35), .ref (b 36), .ref (b 37), .ref (b 38), .ref (b 39), .ref (b 40), .int (gg 40), .ref (b 42), .ref (b 43), .ref (b 44), .int (gg 44), .ref (b 46), .ref (b 47), .int (gg 47), .ref (b 49)])), (b 1, .inl (cB, 200, .inl ta))] hP hD rfl
                  refine lv_goto (tgt := 319) hx hb dX8_next_184 (by decide) ?_
                  obtain ⟨hP9, hD9⟩ := zz_sub2 (ws' := [(b 0, .inr (8, [.ref (b 1), .int (nI mt), .int (nI (k + j)), .int (nI k), .int 4, .int (-1), .int wr, .int wa, .int (gg 8), .int (gg 9), .ref (b 11), .ref (b 12), .ref (b 13), .int (nI mc), .int (nI mh), .ref (b 16), .ref (b 17), .ref (b 18), .ref (b 19), .ref (b 20), .ref (b 21), .ref (b 22), .ref (b 23), .ref (b 24), .int (nI mf), .ref (b 26), .ref (b 27), .ref (b 28), .ref (b 29), .ref (b 30), .ref (b 31), .ref (b 32), .int (gg 32), .int (nI md), .ref (b 35), .ref (b 36), .ref (b 37), .ref (b 38), .ref (b 39), .ref (b 40), .int (gg 40), .ref (b 42), .ref (b 43), .ref (b 44), .int (gg 44), .ref (b 46), .ref (b 47), .int (gg 47), .ref (b 49)])), (b 1, .inl (cB, 200, .inl ta))]) hP hD [0, 1] (by decide) rfl
                  have hK9 := hK.sub (tys' := [(cB, .byte)]) [0] rfl
                  exact W.vret hx hb hr (fun t ht hW => ⟨⟨((k + j), (nI k), 4, (-1)), rfl, ⟨k, by omega, by omega, rfl, ib, Or.inr (Or.inl ⟨by omega, hs1, ⟨j, hj1, rfl, by omega, ij2, hend⟩, Or.inl ⟨zz_wd_no ij2 hend (fun w hw => by rw [← iy (by omega)]; exact hn_40 w hw), rfl⟩⟩)⟩, by rw [ht]; exact hP9, va_K.moved hW.alike hK9, hD9⟩, hS.F ht⟩) hS.2.2 dX8_next_319
                · refine zz_seti (nI qw_40) er_40 ?_
                  refine va_put (D := (dC, dI)) (ci := 8) (v := .int (nI qw_40)) (ty := .int) (C := RX8) (T := TX8) (N := 49) hx hb hw zz_inX8 tyX8 tyX8_ok nmX8 hown hK hP hD hS 0 rfl rfl 5 (by decide) (hw _ tw_303) (fun _ h9 => h9) rfl (by decide +kernel) rfl rfl (Nat.le_of_ble_eq_true rfl) dX8_next_165 (fun H locs hP hD hS => ?_)
                  obtain ⟨hP, hD⟩ := zz_ty (D := (dC, dI)) (cl := vwCl) (A := A) (H := H) [(b 0, .inr (8, [.ref (b 1), .int (nI mt), .int (nI (k + j)), .int (nI k), .int so, .int (nI qw_40), .int wr, .int wa, .int (gg 8), .int (gg 9), .ref (b 11), .ref (b 12), .ref (b 13), .int (nI mc), .int (nI mh), .ref (b 16), .ref (b 17), .ref (b 18), .ref (b 19), .ref (b 20), .ref (b 21), .ref (b 22), .ref (b 23), .ref (b 24), .int (nI mf), .ref (b 26), .ref (b 27), .ref (b 28), .ref (b 29), .ref (b 30), .ref (b 31), .ref (b 32), .int (gg 32), .int (nI md), .ref (b 35), .ref (b 36), .ref (b 37), .ref (b 38), .ref (b 39), .ref (b 40), .int (gg 40), .ref (b 42), .ref (b 43), .ref (b 44), .int (gg 44), .ref (b 46), .ref (b 47), .int (gg 47), .ref (b 49)])), (b 1, .inl (cB, 200, .inl ta))] hP hD rfl
                  refine lv_aload_n hx hb dX8_next_168 rfl (lv_at hl 0 rfl) ?_
                  refine lv_aload_n hx hb dX8_next_169 rfl (lv_at hl 0 rfl) ?_
                  refine va_get (D := (dC, dI)) (ci := 8) (v := .int (nI qw_40)) (C := RX8) (T := TX8) (N := 49) hx hb hw zz_inX8 hown hK hP 0 rfl rfl 5 (by decide) (hw _ tw_303) (fun _ h9 => h9) rfl dX8_next_170 ?_
                  refine lv_if_ge (tgt := 180) hx hb dX8_next_173 (by decide) (fun _ => ?_) (fun c_41 => absurd c_41 (fun h9 => h9 (by rw [Int32.le_iff_toInt_le, zz_toInt qw_40 (by omega), show (0 : Int32).toInt = 0 from by decide]; omega)))
                  refine lv_iconst (v := 1) hx hb dX8_next_180 (by decide) ?_
                  refine va_put (D := (dC, dI)) (ci := 8) (v := .int 1) (ty := .int) (C := RX8) (T := TX8) (N := 49) hx hb hw zz_inX8 tyX8 tyX8_ok nmX8 hown hK hP hD hS 0 rfl rfl 4 (by decide) (hw _ tw_302) (fun _ h9 => h9) rfl (by decide +kernel) rfl rfl (Nat.le_of_ble_eq_true rfl) dX8_next_181 (fun H locs hP hD hS => ?_)
                  obtain ⟨hP, hD⟩ := zz_ty (D := (dC, dI)) (cl := vwCl) (A := A) (H := H) [(b 0, .inr (8, [.ref (b 1), .int (nI mt), .int (nI (k + j)), .int (nI k), .int 1, .int (nI qw_40), .int wr, .int wa, .int (gg 8), .int (gg 9), .ref (b 11), .ref (b 12), .ref (b 13), .int (nI mc), .int (nI mh), .ref (b 16), .ref (b 17), .ref (b 18), .ref (b 19), .ref (b 20), .ref (b 21), .ref (b 22), .ref (b 23), .ref (b 24), .int (nI mf), .ref (b 26), .ref (b 27), .ref (b 28), .ref (b 29), .ref (b 30), .ref (b 31), .ref (b 32), .int (gg 32), .int (nI md), .ref (b 35), .ref (b 36), .ref (b 37), .ref (b 38), .ref (b 39), .ref (b 40), .int (gg 40), .ref (b 42), .ref (b 43), .ref (b 44), .int (gg 44), .ref (b 46), .ref (b 47), .int (gg 47), .ref (b 49)])), (b 1, .inl (cB, 200, .inl ta))] hP hD rfl
                  refine lv_goto (tgt := 319) hx hb dX8_next_184 (by decide) ?_
                  obtain ⟨hP9, hD9⟩ := zz_sub2 (ws' := [(b 0, .inr (8, [.ref (b 1), .int (nI mt), .int (nI (k + j)), .int (nI k), .int 1, .int (nI qw_40), .int wr, .int wa, .int (gg 8), .int (gg 9), .ref (b 11), .ref (b 12), .ref (b 13), .int (nI mc), .int (nI mh), .ref (b 16), .ref (b 17), .ref (b 18), .ref (b 19), .ref (b 20), .ref (b 21), .ref (b 22), .ref (b 23), .ref (b 24), .int (nI mf), .ref (b 26), .ref (b 27), .ref (b 28), .ref (b 29), .ref (b 30), .ref (b 31), .ref (b 32), .int (gg 32), .int (nI md), .ref (b 35), .ref (b 36), .ref (b 37), .ref (b 38), .ref (b 39), .ref (b 40), .int (gg 40), .ref (b 42), .ref (b 43), .ref (b 44), .int (gg 44), .ref (b 46), .ref (b 47), .int (gg 47), .ref (b 49)])), (b 1, .inl (cB, 200, .inl ta))]) hP hD [0, 1] (by decide) rfl
                  have hK9 := hK.sub (tys' := [(cB, .byte)]) [0] rfl
                  exact W.vret hx hb hr (fun t ht hW => ⟨⟨((k + j), (nI k), 1, (nI qw_40)), rfl, ⟨k, by omega, by omega, rfl, ib, Or.inr (Or.inl ⟨by omega, hs1, ⟨j, hj1, rfl, by omega, ij2, hend⟩, Or.inr ⟨qw_40, hq_40, zz_wd_hit hq_40 ij2 hend (by rw [← iy (by omega)]; exact hc_40), rfl, rfl⟩⟩)⟩, by rw [ht]; exact hP9, va_K.moved hW.alike hK9, hD9⟩, hS.F ht⟩) hS.2.2 dX8_next_319
              · have zc_39 := c_39
                rw [Int32.le_iff_toInt_le] at zc_39
                try rw [zz_toInt j (by omega)] at zc_39
                try rw [show (5 : Int32).toInt = 5 from by decide] at zc_39
                refine lv_iconst (v := (-1)) hx hb dX8_next_157 (by decide) ?_
                refine lv_goto (tgt := 165) hx hb dX8_next_158 (by decide) ?_
                refine va_put (D := (dC, dI)) (ci := 8) (v := .int (-1)) (ty := .int) (C := RX8) (T := TX8) (N := 49) hx hb hw zz_inX8 tyX8 tyX8_ok nmX8 hown hK hP hD hS 0 rfl rfl 5 (by decide) (hw _ tw_303) (fun _ h9 => h9) rfl (by decide +kernel) rfl rfl (Nat.le_of_ble_eq_true rfl) dX8_next_165 (fun H locs hP hD hS => ?_)
                obtain ⟨hP, hD⟩ := zz_ty (D := (dC, dI)) (cl := vwCl) (A := A) (H := H) [(b 0, .inr (8, [.ref (b 1), .int (nI mt), .int (nI (k + j)), .int (nI k), .int so, .int (-1), .int wr, .int wa, .int (gg 8), .int (gg 9), .ref (b 11), .ref (b 12), .ref (b 13), .int (nI mc), .int (nI mh), .ref (b 16), .ref (b 17), .ref (b 18), .ref (b 19), .ref (b 20), .ref (b 21), .ref (b 22), .ref (b 23), .ref (b 24), .int (nI mf), .ref (b 26), .ref (b 27), .ref (b 28), .ref (b 29), .ref (b 30), .ref (b 31), .ref (b 32), .int (gg 32), .int (nI md), .ref (b 35), .ref (b 36), .ref (b 37), .ref (b 38), .ref (b 39), .ref (b 40), .int (gg 40), .ref (b 42), .ref (b 43), .ref (b 44), .int (gg 44), .ref (b 46), .ref (b 47), .int (gg 47), .ref (b 49)])), (b 1, .inl (cB, 200, .inl ta))] hP hD rfl
                refine lv_aload_n hx hb dX8_next_168 rfl (lv_at hl 0 rfl) ?_
                refine lv_aload_n hx hb dX8_next_169 rfl (lv_at hl 0 rfl) ?_
                refine va_get (D := (dC, dI)) (ci := 8) (v := .int (-1)) (C := RX8) (T := TX8) (N := 49) hx hb hw zz_inX8 hown hK hP 0 rfl rfl 5 (by decide) (hw _ tw_303) (fun _ h9 => h9) rfl dX8_next_170 ?_
                refine lv_if_ge (tgt := 180) hx hb dX8_next_173 (by decide) (fun c_9 => absurd c_9 (by decide)) (fun _ => ?_)
                refine lv_iconst (v := 4) hx hb dX8_next_176 (by decide) ?_
                refine lv_goto (tgt := 181) hx hb dX8_next_177 (by decide) ?_
                refine va_put (D := (dC, dI)) (ci := 8) (v := .int 4) (ty := .int) (C := RX8) (T := TX8) (N := 49) hx hb hw zz_inX8 tyX8 tyX8_ok nmX8 hown hK hP hD hS 0 rfl rfl 4 (by decide) (hw _ tw_302) (fun _ h9 => h9) rfl (by decide +kernel) rfl rfl (Nat.le_of_ble_eq_true rfl) dX8_next_181 (fun H locs hP hD hS => ?_)
                obtain ⟨hP, hD⟩ := zz_ty (D := (dC, dI)) (cl := vwCl) (A := A) (H := H) [(b 0, .inr (8, [.ref (b 1), .int (nI mt), .int (nI (k + j)), .int (nI k), .int 4, .int (-1), .int wr, .int wa, .int (gg 8), .int (gg 9), .ref (b 11), .ref (b 12), .ref (b 13), .int (nI mc), .int (nI mh), .ref (b 16), .ref (b 17), .ref (b 18), .ref (b 19), .ref (b 20), .ref (b 21), .ref (b 22), .ref (b 23), .ref (b 24), .int (nI mf), .ref (b 26), .ref (b 27), .ref (b 28), .ref (b 29), .ref (b 30), .ref (b 31), .ref (b 32), .int (gg 32), .int (nI md), .ref (b 35), .ref (b 36), .ref (b 37), .ref (b 38), .ref (b 39), .ref (b 40), .int (gg 40), .ref (b 42), .ref (b 43), .ref (b 44), .int (gg 44), .ref (b 46), .ref (b 47), .int (gg 47), .ref (b 49)])), (b 1, .inl (cB, 200, .inl ta))] hP hD rfl
                refine lv_goto (tgt := 319) hx hb dX8_next_184 (by decide) ?_
                obtain ⟨hP9, hD9⟩ := zz_sub2 (ws' := [(b 0, .inr (8, [.ref (b 1), .int (nI mt), .int (nI (k + j)), .int (nI k), .int 4, .int (-1), .int wr, .int wa, .int (gg 8), .int (gg 9), .ref (b 11), .ref (b 12), .ref (b 13), .int (nI mc), .int (nI mh), .ref (b 16), .ref (b 17), .ref (b 18), .ref (b 19), .ref (b 20), .ref (b 21), .ref (b 22), .ref (b 23), .ref (b 24), .int (nI mf), .ref (b 26), .ref (b 27), .ref (b 28), .ref (b 29), .ref (b 30), .ref (b 31), .ref (b 32), .int (gg 32), .int (nI md), .ref (b 35), .ref (b 36), .ref (b 37), .ref (b 38), .ref (b 39), .ref (b 40), .int (gg 40), .ref (b 42), .ref (b 43), .ref (b 44), .int (gg 44), .ref (b 46), .ref (b 47), .int (gg 47), .ref (b 49)])), (b 1, .inl (cB, 200, .inl ta))]) hP hD [0, 1] (by decide) rfl
                have hK9 := hK.sub (tys' := [(cB, .byte)]) [0] rfl
                exact W.vret hx hb hr (fun t ht hW => ⟨⟨((k + j), (nI k), 4, (-1)), rfl, ⟨k, by omega, by omega, rfl, ib, Or.inr (Or.inl ⟨by omega, hs1, ⟨j, hj1, rfl, by omega, ij2, hend⟩, Or.inl ⟨zz_wd_long ij2 hend (by omega), rfl⟩⟩)⟩, by rw [ht]; exact hP9, va_K.moved hW.alike hK9, hD9⟩, hS.F ht⟩) hS.2.2 dX8_next_319
            · have zc_38 := c_38
              rw [← Int32.toInt_inj] at zc_38
              try rw [show (0 : Int32).toInt = 0 from by decide] at zc_38
              have hsj : zz_so (cs (k + j)) = 1 := (zz_by1 (hcs (k + j) (by omega))).mpr (zz_il1 e_37 c_38)
              refine lv_iload hx hb dX8_next_102 (lv_at hl 4 rfl) ?_
              refine lv_bipush (v := 8) hx hb dX8_next_104 (by decide) ?_
              refine lv_icmp_ge (tgt := 132) hx hb dX8_next_106 (by decide) (fun c_42 => ?_) (fun c_42 => ?_)
              · have zc_42 := c_42
                rw [Int32.le_iff_toInt_le] at zc_42
                try rw [zz_toInt j (by omega)] at zc_42
                try rw [show (8 : Int32).toInt = 8 from by decide] at zc_42
                refine lv_lload_n hx hb dX8_next_132 rfl (lv_at hl 3 rfl) ?_
                refine lv_lstore_n (lv' := [(3, .long y), (0, .ref (b 0)), (1, .int (nI ml)), (2, .int (ta k)), (5, .int (nI j))]) hx hb dX8_next_133 rfl hl (by decide) rfl (fun ls hl => ?_)
                refine lv_iinc (v := (nI (j + 1))) (lv' := [(5, .int (nI (j + 1))), (3, .long y), (0, .ref (b 0)), (1, .int (nI ml)), (2, .int (ta k))]) hx hb dX8_next_134 hl (k := 4) rfl (nI_1 _) (by decide) rfl (fun ls hl => ?_)
                refine lv_aload_n hx hb dX8_next_137 rfl (lv_at hl 2 rfl) ?_
                refine lv_dup hx hb dX8_next_138 rfl ?_
                refine va_get (D := (dC, dI)) (ci := 8) (v := .int (nI (k + j))) (C := RX8) (T := TX8) (N := 49) hx hb hw zz_inX8 hown hK hP 0 rfl rfl 2 (by decide) (hw _ tw_296) (fun _ h9 => h9) rfl dX8_next_139 ?_
                refine lv_iconst (v := 1) hx hb dX8_next_142 (by decide) ?_
                refine lv_iadd hx hb dX8_next_143 ?_
                refine zz_seti (nI ((k + j) + 1)) (nI_1 _) ?_
                refine va_put (D := (dC, dI)) (ci := 8) (v := .int (nI ((k + j) + 1))) (ty := .int) (C := RX8) (T := TX8) (N := 49) hx hb hw zz_inX8 tyX8 tyX8_ok nmX8 hown hK hP hD hS 0 rfl rfl 2 (by decide) (hw _ tw_296) (fun _ h9 => h9) rfl (by decide +kernel) rfl rfl (Nat.le_of_ble_eq_true rfl) dX8_next_144 (fun H locs hP hD hS => ?_)
                obtain ⟨hP, hD⟩ := zz_ty (D := (dC, dI)) (cl := vwCl) (A := A) (H := H) [(b 0, .inr (8, [.ref (b 1), .int (nI mt), .int (nI ((k + j) + 1)), .int (nI k), .int so, .int tl, .int wr, .int wa, .int (gg 8), .int (gg 9), .ref (b 11), .ref (b 12), .ref (b 13), .int (nI mc), .int (nI mh), .ref (b 16), .ref (b 17), .ref (b 18), .ref (b 19), .ref (b 20), .ref (b 21), .ref (b 22), .ref (b 23), .ref (b 24), .int (nI mf), .ref (b 26), .ref (b 27), .ref (b 28), .ref (b 29), .ref (b 30), .ref (b 31), .ref (b 32), .int (gg 32), .int (nI md), .ref (b 35), .ref (b 36), .ref (b 37), .ref (b 38), .ref (b 39), .ref (b 40), .int (gg 40), .ref (b 42), .ref (b 43), .ref (b 44), .int (gg 44), .ref (b 46), .ref (b 47), .int (gg 47), .ref (b 49)])), (b 1, .inl (cB, 200, .inl ta))] hP hD rfl
                refine lv_goto (tgt := 79) hx hb dX8_next_147 (by decide) ?_
                exact ih_79 ((j + 1), y) ⟨by omega, zz_run_ext ij2 hsj, fun h9 => absurd h9 (by omega)⟩ (show ml - (k + (j + 1)) < ml - (k + j) from by omega) _ _ _ (hP.sub [0, 1] rfl) (hD.sub [0, 1] (by decide) rfl) hS (lv_sub hl [2, 3, 4, 1, 0] rfl)
              · have zc_42 := c_42
                rw [Int32.le_iff_toInt_le] at zc_42
                try rw [zz_toInt j (by omega)] at zc_42
                try rw [show (8 : Int32).toInt = 8 from by decide] at zc_42
                refine lv_ldc2 (v := 64) hx hb hown (hw _ tw_308) dX8_next_109 ?_
                refine zz_setl (Int32.toInt64 64) (by decide) ?_
                refine lv_lload_n hx hb dX8_next_112 rfl (lv_at hl 3 rfl) ?_
                refine lv_lmul hx hb dX8_next_113 ?_
                refine lv_aload_n hx hb dX8_next_114 rfl (lv_at hl 0 rfl) ?_
                refine va_get (D := (dC, dI)) (ci := 8) (v := .ref (b 1)) (C := RX8) (T := TX8) (N := 49) hx hb hw zz_inX8 hown hK hP 0 rfl rfl 0 (by decide) (hw _ tw_191) (fun _ h9 => h9) rfl dX8_next_115 ?_
                refine lv_aload_n hx hb dX8_next_118 rfl (lv_at hl 0 rfl) ?_
                refine va_get (D := (dC, dI)) (ci := 8) (v := .int (nI (k + j))) (C := RX8) (T := TX8) (N := 49) hx hb hw zz_inX8 hown hK hP 0 rfl rfl 2 (by decide) (hw _ tw_296) (fun _ h9 => h9) rfl dX8_next_119 ?_
                refine va_bald hx hb hK hP 1 0 rfl rfl (vp_in_iff.mpr (by rw [zz_toInt (k + j) (by omega)]; constructor <;> omega)) dX8_next_122 ?_
                refine zz_seti (ta (k + j)) (congrArg ta (zz_cl (by omega))) ?_
                refine lv_i2l (v := Int32.toInt64 (ta (k + j))) hx hb dX8_next_123 rfl ?_
                refine lv_ladd hx hb dX8_next_124 ?_
                refine lv_ldc2 (v := 64) hx hb hown (hw _ tw_308) dX8_next_125 ?_
                refine zz_setl (Int32.toInt64 64) (by decide) ?_
                refine lv_lsub hx hb dX8_next_128 ?_
                refine lv_goto (tgt := 133) hx hb dX8_next_129 (by decide) ?_
                refine lv_lstore_n (lv' := [(3, .long ((((Int32.toInt64 64) * y) + (Int32.toInt64 (ta (k + j)))) - (Int32.toInt64 64))), (0, .ref (b 0)), (1, .int (nI ml)), (2, .int (ta k)), (5, .int (nI j))]) hx hb dX8_next_133 rfl hl (by decide) rfl (fun ls hl => ?_)
                refine lv_iinc (v := (nI (j + 1))) (lv' := [(5, .int (nI (j + 1))), (3, .long ((((Int32.toInt64 64) * y) + (Int32.toInt64 (ta (k + j)))) - (Int32.toInt64 64))), (0, .ref (b 0)), (1, .int (nI ml)), (2, .int (ta k))]) hx hb dX8_next_134 hl (k := 4) rfl (nI_1 _) (by decide) rfl (fun ls hl => ?_)
                refine lv_aload_n hx hb dX8_next_137 rfl (lv_at hl 2 rfl) ?_
                refine lv_dup hx hb dX8_next_138 rfl ?_
                refine va_get (D := (dC, dI)) (ci := 8) (v := .int (nI (k + j))) (C := RX8) (T := TX8) (N := 49) hx hb hw zz_inX8 hown hK hP 0 rfl rfl 2 (by decide) (hw _ tw_296) (fun _ h9 => h9) rfl dX8_next_139 ?_
                refine lv_iconst (v := 1) hx hb dX8_next_142 (by decide) ?_
                refine lv_iadd hx hb dX8_next_143 ?_
                refine zz_seti (nI ((k + j) + 1)) (nI_1 _) ?_
                refine va_put (D := (dC, dI)) (ci := 8) (v := .int (nI ((k + j) + 1))) (ty := .int) (C := RX8) (T := TX8) (N := 49) hx hb hw zz_inX8 tyX8 tyX8_ok nmX8 hown hK hP hD hS 0 rfl rfl 2 (by decide) (hw _ tw_296) (fun _ h9 => h9) rfl (by decide +kernel) rfl rfl (Nat.le_of_ble_eq_true rfl) dX8_next_144 (fun H locs hP hD hS => ?_)
                obtain ⟨hP, hD⟩ := zz_ty (D := (dC, dI)) (cl := vwCl) (A := A) (H := H) [(b 0, .inr (8, [.ref (b 1), .int (nI mt), .int (nI ((k + j) + 1)), .int (nI k), .int so, .int tl, .int wr, .int wa, .int (gg 8), .int (gg 9), .ref (b 11), .ref (b 12), .ref (b 13), .int (nI mc), .int (nI mh), .ref (b 16), .ref (b 17), .ref (b 18), .ref (b 19), .ref (b 20), .ref (b 21), .ref (b 22), .ref (b 23), .ref (b 24), .int (nI mf), .ref (b 26), .ref (b 27), .ref (b 28), .ref (b 29), .ref (b 30), .ref (b 31), .ref (b 32), .int (gg 32), .int (nI md), .ref (b 35), .ref (b 36), .ref (b 37), .ref (b 38), .ref (b 39), .ref (b 40), .int (gg 40), .ref (b 42), .ref (b 43), .ref (b 44), .int (gg 44), .ref (b 46), .ref (b 47), .int (gg 47), .ref (b 49)])), (b 1, .inl (cB, 200, .inl ta))] hP hD rfl
                refine lv_goto (tgt := 79) hx hb dX8_next_147 (by decide) ?_
                exact ih_79 ((j + 1), ((((Int32.toInt64 64) * y) + (Int32.toInt64 (ta (k + j)))) - (Int32.toInt64 64))) ⟨by omega, zz_run_ext ij2 hsj, fun _ => zz_cd_step ij2 (by omega) (iy (by omega)) hsj (zz_by_eq (hcs _ (by omega)) (Or.inl hsj))⟩ (show ml - (k + (j + 1)) < ml - (k + j) from by omega) _ _ _ (hP.sub [0, 1] rfl) (hD.sub [0, 1] (by decide) rfl) hS (lv_sub hl [2, 3, 4, 1, 0] rfl)
      · have zc_23 := c_23
        rw [← Int32.toInt_inj] at zc_23
        try rw [zz_toInt k (by omega)] at zc_23
        try rw [zz_toInt ml (by omega)] at zc_23
        refine lv_aload_n hx hb dX8_next_51 rfl (lv_at hl 0 rfl) ?_
        refine lv_iconst (v := 0) hx hb dX8_next_52 (by decide) ?_
        refine va_put (D := (dC, dI)) (ci := 8) (v := .int 0) (ty := .int) (C := RX8) (T := TX8) (N := 49) hx hb hw zz_inX8 tyX8 tyX8_ok nmX8 hown hK hP hD hS 0 rfl rfl 4 (by decide) (hw _ tw_302) (fun _ h9 => h9) rfl (by decide +kernel) rfl rfl (Nat.le_of_ble_eq_true rfl) dX8_next_53 (fun H locs hP hD hS => ?_)
        obtain ⟨hP, hD⟩ := zz_ty (D := (dC, dI)) (cl := vwCl) (A := A) (H := H) [(b 0, .inr (8, [.ref (b 1), .int (nI mt), .int (nI k), .int (nI k), .int 0, .int tl, .int wr, .int wa, .int (gg 8), .int (gg 9), .ref (b 11), .ref (b 12), .ref (b 13), .int (nI mc), .int (nI mh), .ref (b 16), .ref (b 17), .ref (b 18), .ref (b 19), .ref (b 20), .ref (b 21), .ref (b 22), .ref (b 23), .ref (b 24), .int (nI mf), .ref (b 26), .ref (b 27), .ref (b 28), .ref (b 29), .ref (b 30), .ref (b 31), .ref (b 32), .int (gg 32), .int (nI md), .ref (b 35), .ref (b 36), .ref (b 37), .ref (b 38), .ref (b 39), .ref (b 40), .int (gg 40), .ref (b 42), .ref (b 43), .ref (b 44), .int (gg 44), .ref (b 46), .ref (b 47), .int (gg 47), .ref (b 49)])), (b 1, .inl (cB, 200, .inl ta))] hP hD rfl
        obtain ⟨hP9, hD9⟩ := zz_sub2 (ws' := [(b 0, .inr (8, [.ref (b 1), .int (nI mt), .int (nI k), .int (nI k), .int 0, .int tl, .int wr, .int wa, .int (gg 8), .int (gg 9), .ref (b 11), .ref (b 12), .ref (b 13), .int (nI mc), .int (nI mh), .ref (b 16), .ref (b 17), .ref (b 18), .ref (b 19), .ref (b 20), .ref (b 21), .ref (b 22), .ref (b 23), .ref (b 24), .int (nI mf), .ref (b 26), .ref (b 27), .ref (b 28), .ref (b 29), .ref (b 30), .ref (b 31), .ref (b 32), .int (gg 32), .int (nI md), .ref (b 35), .ref (b 36), .ref (b 37), .ref (b 38), .ref (b 39), .ref (b 40), .int (gg 40), .ref (b 42), .ref (b 43), .ref (b 44), .int (gg 44), .ref (b 46), .ref (b 47), .int (gg 47), .ref (b 49)])), (b 1, .inl (cB, 200, .inl ta))]) hP hD [0, 1] (by decide) rfl
        have hK9 := hK.sub (tys' := [(cB, .byte)]) [0] rfl
        exact W.vret hx hb hr (fun t ht hW => ⟨⟨(k, (nI k), 0, tl), rfl, ⟨k, by omega, by omega, rfl, ib, Or.inl ⟨by omega, by omega, rfl⟩⟩, by rw [ht]; exact hP9, va_K.moved hW.alike hK9, hD9⟩, hS.F ht⟩) hS.2.2 dX8_next_56
    · have zc_22 := c_22
      rw [← Int32.toInt_inj] at zc_22
      try rw [show (32 : Int32).toInt = 32 from by decide] at zc_22
      refine lv_aload_n hx hb dX8_next_22 rfl (lv_at hl 0 rfl) ?_
      refine lv_dup hx hb dX8_next_23 rfl ?_
      refine va_get (D := (dC, dI)) (ci := 8) (v := .int (nI k)) (C := RX8) (T := TX8) (N := 49) hx hb hw zz_inX8 hown hK hP 0 rfl rfl 2 (by decide) (hw _ tw_296) (fun _ h9 => h9) rfl dX8_next_24 ?_
      refine lv_iconst (v := 1) hx hb dX8_next_27 (by decide) ?_
      refine lv_iadd hx hb dX8_next_28 ?_
      refine zz_seti (nI (k + 1)) (nI_1 _) ?_
      refine va_put (D := (dC, dI)) (ci := 8) (v := .int (nI (k + 1))) (ty := .int) (C := RX8) (T := TX8) (N := 49) hx hb hw zz_inX8 tyX8 tyX8_ok nmX8 hown hK hP hD hS 0 rfl rfl 2 (by decide) (hw _ tw_296) (fun _ h9 => h9) rfl (by decide +kernel) rfl rfl (Nat.le_of_ble_eq_true rfl) dX8_next_29 (fun H locs hP hD hS => ?_)
      obtain ⟨hP, hD⟩ := zz_ty (D := (dC, dI)) (cl := vwCl) (A := A) (H := H) [(b 0, .inr (8, [.ref (b 1), .int (nI mt), .int (nI (k + 1)), .int tk, .int so, .int tl, .int wr, .int wa, .int (gg 8), .int (gg 9), .ref (b 11), .ref (b 12), .ref (b 13), .int (nI mc), .int (nI mh), .ref (b 16), .ref (b 17), .ref (b 18), .ref (b 19), .ref (b 20), .ref (b 21), .ref (b 22), .ref (b 23), .ref (b 24), .int (nI mf), .ref (b 26), .ref (b 27), .ref (b 28), .ref (b 29), .ref (b 30), .ref (b 31), .ref (b 32), .int (gg 32), .int (nI md), .ref (b 35), .ref (b 36), .ref (b 37), .ref (b 38), .ref (b 39), .ref (b 40), .int (gg 40), .ref (b 42), .ref (b 43), .ref (b 44), .int (gg 44), .ref (b 46), .ref (b 47), .int (gg 47), .ref (b 49)])), (b 1, .inl (cB, 200, .inl ta))] hP hD rfl
      refine lv_goto (tgt := 0) hx hb dX8_next_32 (by decide) ?_
      exact ih_0 (k + 1) ⟨by omega, by omega, zz_bl_ext ib ((zz_by0 (hcs k (by omega))).mpr (by omega))⟩ (show ml - (k + 1) < ml - k from by omega) _ _ _ (hP.sub [0, 1] rfl) (hD.sub [0, 1] (by decide) rfl) hS (lv_sub hl [0, 1] rfl)
