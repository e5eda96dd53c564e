set_option maxHeartbeats 4000000 in
set_option maxRecDepth 100000 in
theorem mx_clause (l : Launch) (dC : Nat → ClassId) (dI : Nat → Nat → Nat) (b : Nat → Nat) (gg : Nat → Int32) (mt : Nat) (mc : Nat) (mh : Nat) (mf : Nat) (md : Nat) (ma : Nat) (tk : Int32) (so : Int32) (tl : Int32) (wr : Int32) (wa : Int32) (cB : ClassId) (ta : Nat → Int32) (cZ : ClassId) (ist : Nat → Int32) (cI : ClassId) (nwc : Nat → Int32) (ml : Nat) (cs : Nat → Int32) (q : zz_Q) (F : Nat × Int32 × zz_Q) (tp : Nat) (sz : Nat) (hml : ml ≤ 200) (hcs : ∀ i : Nat, i < ml → zz_by (ta i) (cs i)) (hce : ∀ i : Nat, ml ≤ i → cs i = 32) (htk : tk = nI tp) (htn : tp ≤ ml) (htd : zz_td cs ml tp ma so tl) (hs0 : ¬ so = 0) (hbd : zz_bd cs tp) (hF : zz_R cs ml tp q = F) (hq1 : q.1 = 1) (hwr : wr = 0) (hmr : zz_mr q ist nwc) : Met l yX8_clause (zz_w yX8_clause cX8_clause 3 none) ({ frames := 3, cells := 0, slots := 0, locals := 70 }) (va_Pc [.ref (b 0), .int (nI ml)] (zz_B (dC, dI) sz [(b 0, .inr (8, [.ref (b 1), .int (nI mt), .int (nI ma), .int tk, .int so, .int tl, .int wr, .int wa, .int (gg 8), .int (gg 9), .ref (b 11), .ref (b 12), .ref (b 13), .int (nI mc), .int (nI mh), .ref (b 16), .ref (b 17), .ref (b 18), .ref (b 19), .ref (b 20), .ref (b 21), .ref (b 22), .ref (b 23), .ref (b 24), .int (nI mf), .ref (b 26), .ref (b 27), .ref (b 28), .ref (b 29), .ref (b 30), .ref (b 31), .ref (b 32), .int (gg 32), .int (nI md), .ref (b 35), .ref (b 36), .ref (b 37), .ref (b 38), .ref (b 39), .ref (b 40), .int (gg 40), .ref (b 42), .ref (b 43), .ref (b 44), .int (gg 44), .ref (b 46), .ref (b 47), .int (gg 47), .ref (b 49)])), (b 1, .inl (cB, 200, .inl ta)), (b 11, .inl (cZ, 7, .inl ist)), (b 12, .inl (cI, 7, .inl nwc))] [(cB, .byte), (cZ, .boolean), (cI, .int)])) (va_Qv (fun (u : Nat × Int32 × Int32 × Int32 × Int32 × Int32 × (Nat → Int32) × (Nat → Int32)) => match u with | (m2, k2, s2, t2, w2, a2, i2, n2) => zz_ce cs ml ma q.2.2.2.1 F wa m2 k2 s2 t2 w2 a2 i2 n2) (fun (u : Nat × Int32 × Int32 × Int32 × Int32 × Int32 × (Nat → Int32) × (Nat → Int32)) (t : State) => match u with | (u0, u1, u2, u3, u4, u5, u6, u7) => va_P (dC, dI) vwCl [(b 0, .inr (8, [.ref (b 1), .int (nI mt), .int (nI u0), .int u1, .int u2, .int u3, .int u4, .int u5, .int (gg 8), .int (gg 9), .ref (b 11), .ref (b 12), .ref (b 13), .int (nI mc), .int (nI mh), .ref (b 16), .ref (b 17), .ref (b 18), .ref (b 19), .ref (b 20), .ref (b 21), .ref (b 22), .ref (b 23), .ref (b 24), .int (nI mf), .ref (b 26), .ref (b 27), .ref (b 28), .ref (b 29), .ref (b 30), .ref (b 31), .ref (b 32), .int (gg 32), .int (nI md), .ref (b 35), .ref (b 36), .ref (b 37), .ref (b 38), .ref (b 39), .ref (b 40), .int (gg 40), .ref (b 42), .ref (b 43), .ref (b 44), .int (gg 44), .ref (b 46), .ref (b 47), .int (gg 47), .ref (b 49)])), (b 1, .inl (cB, 200, .inl ta)), (b 11, .inl (cZ, 7, .inl u6)), (b 12, .inl (cI, 7, .inl u7))] t.heap ∧ va_K (dC, dI) vwCl [(cB, .byte), (cZ, .boolean), (cI, .int)] t ∧ va_D (va_A [(b 0, .inr (8, [.ref (b 1), .int (nI mt), .int (nI ma), .int tk, .int so, .int tl, .int wr, .int wa, .int (gg 8), .int (gg 9), .ref (b 11), .ref (b 12), .ref (b 13), .int (nI mc), .int (nI mh), .ref (b 16), .ref (b 17), .ref (b 18), .ref (b 19), .ref (b 20), .ref (b 21), .ref (b 22), .ref (b 23), .ref (b 24), .int (nI mf), .ref (b 26), .ref (b 27), .ref (b 28), .ref (b 29), .ref (b 30), .ref (b 31), .ref (b 32), .int (gg 32), .int (nI md), .ref (b 35), .ref (b 36), .ref (b 37), .ref (b 38), .ref (b 39), .ref (b 40), .int (gg 40), .ref (b 42), .ref (b 43), .ref (b 44), .int (gg 44), .ref (b 46), .ref (b 47), .int (gg 47), .ref (b 49)])), (b 1, .inl (cB, 200, .inl ta)), (b 11, .inl (cZ, 7, .inl ist)), (b 12, .inl (cI, 7, .inl nwc))] sz) [(b 0, .inr (8, [.ref (b 1), .int (nI mt), .int (nI u0), .int u1, .int u2, .int u3, .int u4, .int u5, .int (gg 8), .int (gg 9), .ref (b 11), .ref (b 12), .ref (b 13), .int (nI mc), .int (nI mh), .ref (b 16), .ref (b 17), .ref (b 18), .ref (b 19), .ref (b 20), .ref (b 21), .ref (b 22), .ref (b 23), .ref (b 24), .int (nI mf), .ref (b 26), .ref (b 27), .ref (b 28), .ref (b 29), .ref (b 30), .ref (b 31), .ref (b 32), .int (gg 32), .int (nI md), .ref (b 35), .ref (b 36), .ref (b 37), .ref (b 38), .ref (b 39), .ref (b 40), .int (gg 40), .ref (b 42), .ref (b 43), .ref (b 44), .int (gg 44), .ref (b 46), .ref (b 47), .int (gg 47), .ref (b 49)])), (b 1, .inl (cB, 200, .inl ta)), (b 11, .inl (cZ, 7, .inl u6)), (b 12, .inl (cI, 7, .inl u7))]) (va_A [(b 0, .inr (8, [.ref (b 1), .int (nI mt), .int (nI ma), .int tk, .int so, .int tl, .int wr, .int wa, .int (gg 8), .int (gg 9), .ref (b 11), .ref (b 12), .ref (b 13), .int (nI mc), .int (nI mh), .ref (b 16), .ref (b 17), .ref (b 18), .ref (b 19), .ref (b 20), .ref (b 21), .ref (b 22), .ref (b 23), .ref (b 24), .int (nI mf), .ref (b 26), .ref (b 27), .ref (b 28), .ref (b 29), .ref (b 30), .ref (b 31), .ref (b 32), .int (gg 32), .int (nI md), .ref (b 35), .ref (b 36), .ref (b 37), .ref (b 38), .ref (b 39), .ref (b 40), .int (gg 40), .ref (b 42), .ref (b 43), .ref (b 44), .int (gg 44), .ref (b 46), .ref (b 47), .int (gg 47), .ref (b 49)])), (b 1, .inl (cB, 200, .inl ta)), (b 11, .inl (cZ, 7, .inl ist)), (b 12, .inl (cI, 7, .inl nwc))] sz)) 0 0 (va_A [(b 0, .inr (8, [.ref (b 1), .int (nI mt), .int (nI ma), .int tk, .int so, .int tl, .int wr, .int wa, .int (gg 8), .int (gg 9), .ref (b 11), .ref (b 12), .ref (b 13), .int (nI mc), .int (nI mh), .ref (b 16), .ref (b 17), .ref (b 18), .ref (b 19), .ref (b 20), .ref (b 21), .ref (b 22), .ref (b 23), .ref (b 24), .int (nI mf), .ref (b 26), .ref (b 27), .ref (b 28), .ref (b 29), .ref (b 30), .ref (b 31), .ref (b 32), .int (gg 32), .int (nI md), .ref (b 35), .ref (b 36), .ref (b 37), .ref (b 38), .ref (b 39), .ref (b 40), .int (gg 40), .ref (b 42), .ref (b 43), .ref (b 44), .int (gg 44), .ref (b 46), .ref (b 47), .int (gg 47), .ref (b 49)])), (b 1, .inl (cB, 200, .inl ta)), (b 11, .inl (cZ, 7, .inl ist)), (b 12, .inl (cI, 7, .inl nwc))] sz) := by
  refine Met.ofW (cc := cX8_clause) (maxL := 3) (ret := none) (by decide) rfl ?_
  intro p e s m args below meth c s₁ B hml hv
  obtain ⟨rfl, hsz, hP, hK, hD0, hN⟩ := hv
  have hx := B.exec
  have hb := B.bytes
  have hr := B.returns
  have hts := atoms_spec (ws := zz_w yX8_clause cX8_clause 3 none) B.pre
  have hw : ∀ w ∈ zz_all, w.before _ s = true := fun w h => hts w (List.mem_cons_of_mem _ h)
  have hown : s.vm.findClass RX8 = some m.cls := findClass_of_methodNamed B.named
  have hlocks := B.notSynchronized
  subst hsz
  have hD := hD0.self (sz := s.heap.size)
  generalize hAe : va_A [(b 0, .inr (8, [.ref (b 1), .int (nI mt), .int (nI ma), .int tk, .int so, .int tl, .int wr, .int wa, .int (gg 8), .int (gg 9), .ref (b 11), .ref (b 12), .ref (b 13), .int (nI mc), .int (nI mh), .ref (b 16), .ref (b 17), .ref (b 18), .ref (b 19), .ref (b 20), .ref (b 21), .ref (b 22), .ref (b 23), .ref (b 24), .int (nI mf), .ref (b 26), .ref (b 27), .ref (b 28), .ref (b 29), .ref (b 30), .ref (b 31), .ref (b 32), .int (gg 32), .int (nI md), .ref (b 35), .ref (b 36), .ref (b 37), .ref (b 38), .ref (b 39), .ref (b 40), .int (gg 40), .ref (b 42), .ref (b 43), .ref (b 44), .int (gg 44), .ref (b 46), .ref (b 47), .int (gg 47), .ref (b 49)])), (b 1, .inl (cB, 200, .inl ta)), (b 11, .inl (cZ, 7, .inl ist)), (b 12, .inl (cI, 7, .inl nwc))] s.heap.size = A at hD ⊢
  have hA : ∀ q : Nat, s.heap.size ≤ q → A q := fun q h => by rw [← hAe]; exact Or.inr h
  have hS : va_S A s.heap s.heap [] := va_S.rf
  have hP : va_P (dC, dI) vwCl [(b 0, .inr (8, [.ref (b 1), .int (nI mt), .int (nI ma), .int tk, .int so, .int tl, .int wr, .int wa, .int (gg 8), .int (gg 9), .ref (b 11), .ref (b 12), .ref (b 13), .int (nI mc), .int (nI mh), .ref (b 16), .ref (b 17), .ref (b 18), .ref (b 19), .ref (b 20), .ref (b 21), .ref (b 22), .ref (b 23), .ref (b 24), .int (nI mf), .ref (b 26), .ref (b 27), .ref (b 28), .ref (b 29), .ref (b 30), .ref (b 31), .ref (b 32), .int (gg 32), .int (nI md), .ref (b 35), .ref (b 36), .ref (b 37), .ref (b 38), .ref (b 39), .ref (b 40), .int (gg 40), .ref (b 42), .ref (b 43), .ref (b 44), .int (gg 44), .ref (b 46), .ref (b 47), .int (gg 47), .ref (b 49)])), (b 1, .inl (cB, 200, .inl ta)), (b 11, .inl (cZ, 7, .inl ist)), (b 12, .inl (cI, 7, .inl nwc))] s.heap := hP
  have hl := lv_entry ([.ref (b 0), .int (nI ml)]) (n := 3) (Nat.le_of_ble_eq_true rfl)
  rw [lg_entry_eq]
  generalize (lg_sl ([.ref (b 0), .int (nI ml)]) ++ List.replicate (3 - (lg_sl ([.ref (b 0), .int (nI ml)])).length) Slot.unset).toArray = ls at hl ⊢
  have hl : lv_has ls 3 [(0, .ref (b 0)), (1, .int (nI ml))] := hl
  have htp := zz_td_end htd hs0 htn
  have hen := zz_td_bd htd htp
  refine lv_aload_n hx hb dX8_clause_0 rfl (lv_at hl 0 rfl) ?_
  refine va_get (D := (dC, dI)) (ci := 8) (v := .int so) (C := RX8) (T := TX8) (N := 49) hx hb hw zz_inX8 hown hK hP 0 rfl rfl 4 (by decide) (hw _ tw_302) (fun _ h9 => h9) rfl dX8_clause_1 ?_
  refine lv_iconst (v := 1) hx hb dX8_clause_4 (by decide) ?_
  refine lv_icmp_eq (tgt := 14) hx hb dX8_clause_5 (by decide) (fun c_1 => ?_) (fun c_1 => ?_)
  · have zc_1 := c_1
    rw [← Int32.toInt_inj] at zc_1
    try rw [show (1 : Int32).toInt = 1 from by decide] at zc_1
    refine lv_aload_n hx hb dX8_clause_14 rfl (lv_at hl 0 rfl) ?_
    refine va_get (D := (dC, dI)) (ci := 8) (v := .int tl) (C := RX8) (T := TX8) (N := 49) hx hb hw zz_inX8 hown hK hP 0 rfl rfl 5 (by decide) (hw _ tw_303) (fun _ h9 => h9) rfl dX8_clause_15 ?_
    have hs1 : so = 1 := c_1
    obtain ⟨-, qw, hqw, eqw⟩ := zz_td_word htd hs1
    refine zz_seti (nI qw) eqw ?_
    refine lv_istore_n (lv' := [(2, .int (nI qw)), (0, .ref (b 0)), (1, .int (nI ml))]) hx hb dX8_clause_18 rfl hl (by decide) rfl (fun ls hl => ?_)
    refine lv_aload_n hx hb dX8_clause_19 rfl (lv_at hl 1 rfl) ?_
    refine va_get (D := (dC, dI)) (ci := 8) (v := .ref (b 11)) (C := RX8) (T := TX8) (N := 49) hx hb hw zz_inX8 hown hK hP 0 rfl rfl 10 (by decide) (hw _ tw_309) (fun _ h9 => h9) rfl dX8_clause_20 ?_
    refine lv_iload_n hx hb dX8_clause_23 rfl (lv_at hl 0 rfl) ?_
    refine va_zald hx hb hK hP 2 1 rfl rfl (vp_in_iff.mpr (by rw [zz_toInt qw (by omega)]; constructor <;> omega)) dX8_clause_24 ?_
    refine zz_seti (ist qw) (congrArg ist (zz_cl (by omega))) ?_
    refine lv_if_eq (tgt := 34) hx hb dX8_clause_25 (by decide) (fun c_2 => ?_) (fun c_2 => ?_)
    · have zc_2 := c_2
      rw [← Int32.toInt_inj] at zc_2
      try rw [show (0 : Int32).toInt = 0 from by decide] at zc_2
      have hF1 := zz_F_w0 htd hbd hF hq1 hs1 eqw hqw ((hmr.1 qw hqw).mp c_2)
      have hm1 := zz_mr_w (x := vp_nar .boolean 1) hmr hqw zz_nar1
      refine lv_aload_n hx hb dX8_clause_34 rfl (lv_at hl 1 rfl) ?_
      refine va_get (D := (dC, dI)) (ci := 8) (v := .ref (b 11)) (C := RX8) (T := TX8) (N := 49) hx hb hw zz_inX8 hown hK hP 0 rfl rfl 10 (by decide) (hw _ tw_309) (fun _ h9 => h9) rfl dX8_clause_35 ?_
      refine lv_iload_n hx hb dX8_clause_38 rfl (lv_at hl 0 rfl) ?_
      refine lv_iconst (v := 1) hx hb dX8_clause_39 (by decide) ?_
      refine va_zast hx hb hK hP hD hS 2 1 rfl rfl (vp_in_iff.mpr (by rw [zz_toInt qw (by omega)]; constructor <;> omega)) dX8_clause_40 (fun H locs hP hD hS => ?_)
      obtain ⟨hP, hD⟩ := zz_ty (D := (dC, dI)) (cl := vwCl) (A := A) (H := H) [(b 0, .inr (8, [.ref (b 1), .int (nI mt), .int (nI ma), .int tk, .int so, .int tl, .int wr, .int wa, .int (gg 8), .int (gg 9), .ref (b 11), .ref (b 12), .ref (b 13), .int (nI mc), .int (nI mh), .ref (b 16), .ref (b 17), .ref (b 18), .ref (b 19), .ref (b 20), .ref (b 21), .ref (b 22), .ref (b 23), .ref (b 24), .int (nI mf), .ref (b 26), .ref (b 27), .ref (b 28), .ref (b 29), .ref (b 30), .ref (b 31), .ref (b 32), .int (gg 32), .int (nI md), .ref (b 35), .ref (b 36), .ref (b 37), .ref (b 38), .ref (b 39), .ref (b 40), .int (gg 40), .ref (b 42), .ref (b 43), .ref (b 44), .int (gg 44), .ref (b 46), .ref (b 47), .int (gg 47), .ref (b 49)])), (b 1, .inl (cB, 200, .inl ta)), (b 11, .inl (cZ, 7, .inl (upd ist (Int32.toNatClampNeg (nI qw)) (vp_nar .boolean 1)))), (b 12, .inl (cI, 7, .inl nwc))] hP hD rfl
      refine lv_aload_n hx hb dX8_clause_41 rfl (lv_at hl 1 rfl) ?_
      refine lv_iload_n hx hb dX8_clause_42 rfl (lv_at hl 2 rfl) ?_
      obtain ⟨hPc, hDc⟩ := zz_sub2 (ws' := [(b 0, .inr (8, [.ref (b 1), .int (nI mt), .int (nI ma), .int tk, .int so, .int tl, .int wr, .int wa, .int (gg 8), .int (gg 9), .ref (b 11), .ref (b 12), .ref (b 13), .int (nI mc), .int (nI mh), .ref (b 16), .ref (b 17), .ref (b 18), .ref (b 19), .ref (b 20), .ref (b 21), .ref (b 22), .ref (b 23), .ref (b 24), .int (nI mf), .ref (b 26), .ref (b 27), .ref (b 28), .ref (b 29), .ref (b 30), .ref (b 31), .ref (b 32), .int (gg 32), .int (nI md), .ref (b 35), .ref (b 36), .ref (b 37), .ref (b 38), .ref (b 39), .ref (b 40), .int (gg 40), .ref (b 42), .ref (b 43), .ref (b 44), .int (gg 44), .ref (b 46), .ref (b 47), .int (gg 47), .ref (b 49)])), (b 1, .inl (cB, 200, .inl ta))]) hP hD [0, 1] (by decide) rfl
      have hKc := hK.sub (tys' := [(cB, .byte)]) [0] rfl
      have hFc := zz_free1 hDc hS hA
      refine va_callv (va_runV (As := [.int (nI ml)]) (rest := []) ⟨hx, hb, hml, hown, hw⟩ (mx_next l dC dI b gg mt mc mh mf md ma tk so tl wr wa cB ta ml cs H.size (by omega) (by omega) hcs hce) ⟨callB_of 1 hw (zz_good tw_310) rfl rfl rfl (hw _ tw_184) (hw _ tw_311) (by decide +kernel) ⟨Nat.le_of_ble_eq_true rfl, Nat.le_of_ble_eq_true rfl⟩, (hw _ tw_312), (hw _ tw_313)⟩ ⟨zz_blind, va_recv hKc hPc (ci := 8) (q0 := 0) rfl rfl, zz_pre hPc hKc hDc hN⟩ rfl rfl hl.1 rfl (lv_room (Nat.le_of_ble_eq_true rfl)) dX8_clause_43 ⟨Nat.le_of_ble_eq_true rfl, Nat.le_of_ble_eq_true rfl⟩) hS (fun q _ h => hFc q h) hFc (fun u_3 t H1 locs ht hvm e_3 hB hz1 hk1 hS => ?_)
      try dsimp only at e_3
      obtain ⟨v_3_0, v_3_1, v_3_2, v_3_3⟩ := u_3
      obtain ⟨hP1, hK1, hD1⟩ := hB
      rw [ht] at hP1
      have hK1 := va_K.moved hvm.symm hK1
      try dsimp only at e_3
      obtain ⟨hP, hD⟩ := va_join (wr := [(b 11, .inl (cZ, 7, .inl (upd ist (Int32.toNatClampNeg (nI qw)) (vp_nar .boolean 1)))), (b 12, .inl (cI, 7, .inl nwc))]) (w1 := [(b 0, .inr (8, [.ref (b 1), .int (nI mt), .int (nI v_3_0), .int v_3_1, .int v_3_2, .int v_3_3, .int wr, .int wa, .int (gg 8), .int (gg 9), .ref (b 11), .ref (b 12), .ref (b 13), .int (nI mc), .int (nI mh), .ref (b 16), .ref (b 17), .ref (b 18), .ref (b 19), .ref (b 20), .ref (b 21), .ref (b 22), .ref (b 23), .ref (b 24), .int (nI mf), .ref (b 26), .ref (b 27), .ref (b 28), .ref (b 29), .ref (b 30), .ref (b 31), .ref (b 32), .int (gg 32), .int (nI md), .ref (b 35), .ref (b 36), .ref (b 37), .ref (b 38), .ref (b 39), .ref (b 40), .int (gg 40), .ref (b 42), .ref (b 43), .ref (b 44), .int (gg 44), .ref (b 46), .ref (b 47), .int (gg 47), .ref (b 49)])), (b 1, .inl (cB, 200, .inl ta))]) hP hD [0, 1] [2, 3] rfl rfl (by decide) (by decide) hk1 hFc hP1 hD1
      clear hk1 ht hvm
      generalize H1 = H at hP hS ⊢
      obtain ⟨hP, hD⟩ := zz_ty (D := (dC, dI)) (cl := vwCl) (A := A) (H := H) [(b 11, .inl (cZ, 7, .inl (upd ist (Int32.toNatClampNeg (nI qw)) (vp_nar .boolean 1)))), (b 12, .inl (cI, 7, .inl nwc)), (b 0, .inr (8, [.ref (b 1), .int (nI mt), .int (nI v_3_0), .int v_3_1, .int v_3_2, .int v_3_3, .int wr, .int wa, .int (gg 8), .int (gg 9), .ref (b 11), .ref (b 12), .ref (b 13), .int (nI mc), .int (nI mh), .ref (b 16), .ref (b 17), .ref (b 18), .ref (b 19), .ref (b 20), .ref (b 21), .ref (b 22), .ref (b 23), .ref (b 24), .int (nI mf), .ref (b 26), .ref (b 27), .ref (b 28), .ref (b 29), .ref (b 30), .ref (b 31), .ref (b 32), .int (gg 32), .int (nI md), .ref (b 35), .ref (b 36), .ref (b 37), .ref (b 38), .ref (b 39), .ref (b 40), .int (gg 40), .ref (b 42), .ref (b 43), .ref (b 44), .int (gg 44), .ref (b 46), .ref (b 47), .int (gg 47), .ref (b 49)])), (b 1, .inl (cB, 200, .inl ta))] hP hD rfl
      obtain ⟨tp1, hp1, hn1, ek1, td1, bd1, hR1⟩ := zz_np_R e_3 hen.1 hF1
      have hle1 := zz_td_le td1 hn1
      refine lv_aload_n hx hb dX8_clause_46 rfl (lv_at hl 1 rfl) ?_
      refine va_get (D := (dC, dI)) (ci := 8) (v := .int v_3_2) (C := RX8) (T := TX8) (N := 49) hx hb hw zz_inX8 hown hK hP 2 rfl rfl 4 (by decide) (hw _ tw_302) (fun _ h9 => h9) rfl dX8_clause_47 ?_
      refine lv_iconst (v := 2) hx hb dX8_clause_50 (by decide) ?_
      refine lv_icmp_eq (tgt := 62) hx hb dX8_clause_51 (by decide) (fun c_4 => ?_) (fun c_4 => ?_)
      · have zc_4 := c_4
        rw [← Int32.toInt_inj] at zc_4
        try rw [show (2 : Int32).toInt = 2 from by decide] at zc_4
        obtain ⟨lt1, fIn, fOut⟩ := zz_F_n td1 bd1 hR1 rfl hqw c_4
        refine lv_aload_n hx hb dX8_clause_62 rfl (lv_at hl 1 rfl) ?_
        refine va_get (D := (dC, dI)) (ci := 8) (v := .int v_3_3) (C := RX8) (T := TX8) (N := 49) hx hb hw zz_inX8 hown hK hP 2 rfl rfl 5 (by decide) (hw _ tw_303) (fun _ h9 => h9) rfl dX8_clause_63 ?_
        refine lv_i2l (v := Int32.toInt64 v_3_3) hx hb dX8_clause_66 rfl ?_
        refine lv_iload_n hx hb dX8_clause_67 rfl (lv_at hl 0 rfl) ?_
        obtain ⟨hPc, hDc⟩ := zz_sub2 (ws' := []) hP hD [] (by decide) rfl
        have hKc := hK.sub (tys' := []) [] rfl
        have hFc := zz_free0 hS hA
        refine va_calli (va_runS (As := [.int (nI qw)]) (rest := [.long (Int32.toInt64 v_3_3)]) ⟨hx, hb, hml, hown, hw⟩ (mx_lowest l dC dI qw H.size (by omega)) ⟨callB_of 1 hw (zz_good tw_314) rfl rfl rfl (hw _ tw_184) (hw _ tw_315) (by decide +kernel) ⟨Nat.le_of_ble_eq_true rfl, Nat.le_of_ble_eq_true rfl⟩, (hw _ tw_316)⟩ ⟨zz_blind, zz_pre hPc hKc hDc hN⟩ rfl rfl hl.1 rfl (lv_room (Nat.le_of_ble_eq_true rfl)) dX8_clause_68 ⟨Nat.le_of_ble_eq_true rfl, Nat.le_of_ble_eq_true rfl⟩) hS (fun q _ h => hFc q h) hFc (fun r_5 u_5 t H1 locs ht hvm e_5 hB hz1 hk1 hS => ?_)
        try dsimp only at e_5
        have hP := zz_keep hP hk1
        clear hk1 hB ht hvm
        generalize H1 = H at hP hS ⊢
        refine zz_seti (zz_lo7 qw) e_5 ?_
        refine lv_i2l (v := Int32.toInt64 (zz_lo7 qw)) hx hb dX8_clause_71 rfl ?_
        refine lv_iload_n hx hb dX8_clause_72 rfl (lv_at hl 0 rfl) ?_
        obtain ⟨hPc, hDc⟩ := zz_sub2 (ws' := []) hP hD [] (by decide) rfl
        have hKc := hK.sub (tys' := []) [] rfl
        have hFc := zz_free0 hS hA
        refine va_calli (va_runS (As := [.int (nI qw)]) (rest := [.long (Int32.toInt64 (zz_lo7 qw)), .long (Int32.toInt64 v_3_3)]) ⟨hx, hb, hml, hown, hw⟩ (mx_highest l dC dI qw H.size (by omega)) ⟨callB_of 1 hw (zz_good tw_317) rfl rfl rfl (hw _ tw_184) (hw _ tw_318) (by decide +kernel) ⟨Nat.le_of_ble_eq_true rfl, Nat.le_of_ble_eq_true rfl⟩, (hw _ tw_319)⟩ ⟨zz_blind, zz_pre hPc hKc hDc hN⟩ rfl rfl hl.1 rfl (lv_room (Nat.le_of_ble_eq_true rfl)) dX8_clause_73 ⟨Nat.le_of_ble_eq_true rfl, Nat.le_of_ble_eq_true rfl⟩) hS (fun q _ h => hFc q h) hFc (fun r_6 u_6 t H1 locs ht hvm e_6 hB hz1 hk1 hS => ?_)
        try dsimp only at e_6
        have hP := zz_keep hP hk1
        clear hk1 hB ht hvm
        generalize H1 = H at hP hS ⊢
        refine zz_seti (zz_hi7 qw) e_6 ?_
        refine lv_i2l (v := Int32.toInt64 (zz_hi7 qw)) hx hb dX8_clause_76 rfl ?_
        obtain ⟨hPc, hDc⟩ := zz_sub2 (ws' := []) hP hD [] (by decide) rfl
        have hKc := hK.sub (tys' := []) [] rfl
        have hFc := zz_free0 hS hA
        refine va_calli (va_runS (As := [.long (Int32.toInt64 v_3_3), .long (Int32.toInt64 (zz_lo7 qw)), .long (Int32.toInt64 (zz_hi7 qw))]) (rest := []) ⟨hx, hb, hml, hown, hw⟩ (k_in l dC dI v_3_3 (zz_lo7 qw) (zz_hi7 qw) H.size) ⟨callB_of 3 hw (zz_good tw_183) rfl rfl rfl (hw _ tw_184) (hw _ tw_185) (by decide +kernel) ⟨Nat.le_of_ble_eq_true rfl, Nat.le_of_ble_eq_true rfl⟩, (hw _ tw_186)⟩ ⟨zz_blind, zz_pre hPc hKc hDc hN⟩ rfl rfl hl.1 rfl (lv_room (Nat.le_of_ble_eq_true rfl)) dX8_clause_77 ⟨Nat.le_of_ble_eq_true rfl, Nat.le_of_ble_eq_true rfl⟩) hS (fun q _ h => hFc q h) hFc (fun r_7 u_7 t H1 locs ht hvm e_7 hB hz1 hk1 hS => ?_)
        try dsimp only at e_7
        have hP := zz_keep hP hk1
        clear hk1 hB ht hvm
        generalize H1 = H at hP hS ⊢
        refine lv_if_ne (tgt := 88) hx hb dX8_clause_80 (by decide) (fun c_8 => ?_) (fun c_8 => ?_)
        · have zc_8 := c_8
          rw [e_7, zz_in0, Int32.le_iff_toInt_le, Int32.le_iff_toInt_le] at zc_8
          refine lv_aload_n hx hb dX8_clause_88 rfl (lv_at hl 1 rfl) ?_
          refine va_get (D := (dC, dI)) (ci := 8) (v := .ref (b 12)) (C := RX8) (T := TX8) (N := 49) hx hb hw zz_inX8 hown hK hP 2 rfl rfl 11 (by decide) (hw _ tw_320) (fun _ h9 => h9) rfl dX8_clause_89 ?_
          refine lv_iload_n hx hb dX8_clause_92 rfl (lv_at hl 0 rfl) ?_
          refine lv_aload_n hx hb dX8_clause_93 rfl (lv_at hl 1 rfl) ?_
          refine va_get (D := (dC, dI)) (ci := 8) (v := .int v_3_3) (C := RX8) (T := TX8) (N := 49) hx hb hw zz_inX8 hown hK hP 2 rfl rfl 5 (by decide) (hw _ tw_303) (fun _ h9 => h9) rfl dX8_clause_94 ?_
          refine va_iast hx hb hK hP hD hS 1 2 rfl rfl (vp_in_iff.mpr (by rw [zz_toInt qw (by omega)]; constructor <;> omega)) dX8_clause_97 (fun H locs hP hD hS => ?_)
          obtain ⟨hP, hD⟩ := zz_ty (D := (dC, dI)) (cl := vwCl) (A := A) (H := H) [(b 11, .inl (cZ, 7, .inl (upd ist (Int32.toNatClampNeg (nI qw)) (vp_nar .boolean 1)))), (b 12, .inl (cI, 7, .inl (upd nwc (Int32.toNatClampNeg (nI qw)) v_3_3))), (b 0, .inr (8, [.ref (b 1), .int (nI mt), .int (nI v_3_0), .int v_3_1, .int v_3_2, .int v_3_3, .int wr, .int wa, .int (gg 8), .int (gg 9), .ref (b 11), .ref (b 12), .ref (b 13), .int (nI mc), .int (nI mh), .ref (b 16), .ref (b 17), .ref (b 18), .ref (b 19), .ref (b 20), .ref (b 21), .ref (b 22), .ref (b 23), .ref (b 24), .int (nI mf), .ref (b 26), .ref (b 27), .ref (b 28), .ref (b 29), .ref (b 30), .ref (b 31), .ref (b 32), .int (gg 32), .int (nI md), .ref (b 35), .ref (b 36), .ref (b 37), .ref (b 38), .ref (b 39), .ref (b 40), .int (gg 40), .ref (b 42), .ref (b 43), .ref (b 44), .int (gg 44), .ref (b 46), .ref (b 47), .int (gg 47), .ref (b 49)])), (b 1, .inl (cB, 200, .inl ta))] hP hD rfl
          refine lv_aload_n hx hb dX8_clause_98 rfl (lv_at hl 1 rfl) ?_
          refine va_get (D := (dC, dI)) (ci := 8) (v := .int wr) (C := RX8) (T := TX8) (N := 49) hx hb hw zz_inX8 hown hK hP 2 rfl rfl 6 (by decide) (hw _ tw_270) (fun _ h9 => h9) rfl dX8_clause_99 ?_
          refine lv_if_ne (tgt := 110) hx hb dX8_clause_102 (by decide) (fun c_9 => absurd c_9 (fun h9 => h9 hwr)) (fun _ => ?_)
          have hF2 := fIn (show ((zz_lo7 qw).toInt ≤ v_3_3.toInt ∧ v_3_3.toInt ≤ (zz_hi7 qw).toInt) by omega)
          have hen2 := zz_td_bd td1 lt1
          have hm2 := zz_mr_n (t := v_3_3) hm1 hqw
          refine lv_aload_n hx hb dX8_clause_105 rfl (lv_at hl 1 rfl) ?_
          refine lv_iload_n hx hb dX8_clause_106 rfl (lv_at hl 2 rfl) ?_
          obtain ⟨hPc, hDc⟩ := zz_sub2 (ws' := [(b 0, .inr (8, [.ref (b 1), .int (nI mt), .int (nI v_3_0), .int v_3_1, .int v_3_2, .int v_3_3, .int wr, .int wa, .int (gg 8), .int (gg 9), .ref (b 11), .ref (b 12), .ref (b 13), .int (nI mc), .int (nI mh), .ref (b 16), .ref (b 17), .ref (b 18), .ref (b 19), .ref (b 20), .ref (b 21), .ref (b 22), .ref (b 23), .ref (b 24), .int (nI mf), .ref (b 26), .ref (b 27), .ref (b 28), .ref (b 29), .ref (b 30), .ref (b 31), .ref (b 32), .int (gg 32), .int (nI md), .ref (b 35), .ref (b 36), .ref (b 37), .ref (b 38), .ref (b 39), .ref (b 40), .int (gg 40), .ref (b 42), .ref (b 43), .ref (b 44), .int (gg 44), .ref (b 46), .ref (b 47), .int (gg 47), .ref (b 49)])), (b 1, .inl (cB, 200, .inl ta))]) hP hD [2, 3] (by decide) rfl
          have hKc := hK.sub (tys' := [(cB, .byte)]) [0] rfl
          have hFc := zz_free1 hDc hS hA
          refine va_callv (va_runV (As := [.int (nI ml)]) (rest := []) ⟨hx, hb, hml, hown, hw⟩ (mx_next l dC dI b gg mt mc mh mf md v_3_0 v_3_1 v_3_2 v_3_3 wr wa cB ta ml cs H.size (by omega) (by omega) hcs hce) ⟨callB_of 1 hw (zz_good tw_310) rfl rfl rfl (hw _ tw_184) (hw _ tw_311) (by decide +kernel) ⟨Nat.le_of_ble_eq_true rfl, Nat.le_of_ble_eq_true rfl⟩, (hw _ tw_312), (hw _ tw_313)⟩ ⟨zz_blind, va_recv hKc hPc (ci := 8) (q0 := 0) rfl rfl, zz_pre hPc hKc hDc hN⟩ rfl rfl hl.1 rfl (lv_room (Nat.le_of_ble_eq_true rfl)) dX8_clause_107 ⟨Nat.le_of_ble_eq_true rfl, Nat.le_of_ble_eq_true rfl⟩) hS (fun q _ h => hFc q h) hFc (fun u_10 t H1 locs ht hvm e_10 hB hz1 hk1 hS => ?_)
          try dsimp only at e_10
          obtain ⟨v_10_0, v_10_1, v_10_2, v_10_3⟩ := u_10
          obtain ⟨hP1, hK1, hD1⟩ := hB
          rw [ht] at hP1
          have hK1 := va_K.moved hvm.symm hK1
          try dsimp only at e_10
          obtain ⟨hP, hD⟩ := va_join (wr := [(b 11, .inl (cZ, 7, .inl (upd ist (Int32.toNatClampNeg (nI qw)) (vp_nar .boolean 1)))), (b 12, .inl (cI, 7, .inl (upd nwc (Int32.toNatClampNeg (nI qw)) v_3_3)))]) (w1 := [(b 0, .inr (8, [.ref (b 1), .int (nI mt), .int (nI v_10_0), .int v_10_1, .int v_10_2, .int v_10_3, .int wr, .int wa, .int (gg 8), .int (gg 9), .ref (b 11), .ref (b 12), .ref (b 13), .int (nI mc), .int (nI mh), .ref (b 16), .ref (b 17), .ref (b 18), .ref (b 19), .ref (b 20), .ref (b 21), .ref (b 22), .ref (b 23), .ref (b 24), .int (nI mf), .ref (b 26), .ref (b 27), .ref (b 28), .ref (b 29), .ref (b 30), .ref (b 31), .ref (b 32), .int (gg 32), .int (nI md), .ref (b 35), .ref (b 36), .ref (b 37), .ref (b 38), .ref (b 39), .ref (b 40), .int (gg 40), .ref (b 42), .ref (b 43), .ref (b 44), .int (gg 44), .ref (b 46), .ref (b 47), .int (gg 47), .ref (b 49)])), (b 1, .inl (cB, 200, .inl ta))]) hP hD [2, 3] [0, 1] rfl rfl (by decide) (by decide) hk1 hFc hP1 hD1
          clear hk1 ht hvm
          generalize H1 = H at hP hS ⊢
          obtain ⟨hP, hD⟩ := zz_ty (D := (dC, dI)) (cl := vwCl) (A := A) (H := H) [(b 11, .inl (cZ, 7, .inl (upd ist (Int32.toNatClampNeg (nI qw)) (vp_nar .boolean 1)))), (b 12, .inl (cI, 7, .inl (upd nwc (Int32.toNatClampNeg (nI qw)) v_3_3))), (b 0, .inr (8, [.ref (b 1), .int (nI mt), .int (nI v_10_0), .int v_10_1, .int v_10_2, .int v_10_3, .int wr, .int wa, .int (gg 8), .int (gg 9), .ref (b 11), .ref (b 12), .ref (b 13), .int (nI mc), .int (nI mh), .ref (b 16), .ref (b 17), .ref (b 18), .ref (b 19), .ref (b 20), .ref (b 21), .ref (b 22), .ref (b 23), .ref (b 24), .int (nI mf), .ref (b 26), .ref (b 27), .ref (b 28), .ref (b 29), .ref (b 30), .ref (b 31), .ref (b 32), .int (gg 32), .int (nI md), .ref (b 35), .ref (b 36), .ref (b 37), .ref (b 38), .ref (b 39), .ref (b 40), .int (gg 40), .ref (b 42), .ref (b 43), .ref (b 44), .int (gg 44), .ref (b 46), .ref (b 47), .int (gg 47), .ref (b 49)])), (b 1, .inl (cB, 200, .inl ta))] hP hD rfl
          obtain ⟨tp2, hp2, hn2, ek2, td2, bd2, hR2⟩ := zz_np_R e_10 hen2.1 hF2
          have hle2 := zz_td_le td2 hn2
          refine lv_aload_n hx hb dX8_clause_110 rfl (lv_at hl 1 rfl) ?_
          refine va_get (D := (dC, dI)) (ci := 8) (v := .int v_10_2) (C := RX8) (T := TX8) (N := 49) hx hb hw zz_inX8 hown hK hP 2 rfl rfl 4 (by decide) (hw _ tw_302) (fun _ h9 => h9) rfl dX8_clause_111 ?_
          refine lv_iconst (v := 3) hx hb dX8_clause_114 (by decide) ?_
          refine lv_icmp_eq (tgt := 126) hx hb dX8_clause_115 (by decide) (fun c_11 => ?_) (fun c_11 => ?_)
          · have zc_11 := c_11
            rw [← Int32.toInt_inj] at zc_11
            try rw [show (3 : Int32).toInt = 3 from by decide] at zc_11
            refine lv_aload_n hx hb dX8_clause_126 rfl (lv_at hl 1 rfl) ?_
            refine va_get (D := (dC, dI)) (ci := 8) (v := .int wr) (C := RX8) (T := TX8) (N := 49) hx hb hw zz_inX8 hown hK hP 2 rfl rfl 6 (by decide) (hw _ tw_270) (fun _ h9 => h9) rfl dX8_clause_127 ?_
            refine lv_if_ne (tgt := 138) hx hb dX8_clause_130 (by decide) (fun c_12 => absurd c_12 (fun h9 => h9 hwr)) (fun _ => ?_)
            obtain ⟨lt2, hF3⟩ := zz_F_s td2 bd2 hR2 rfl c_11
            have hen3 := zz_td_bd td2 lt2
            refine lv_aload_n hx hb dX8_clause_133 rfl (lv_at hl 1 rfl) ?_
            refine lv_iload_n hx hb dX8_clause_134 rfl (lv_at hl 2 rfl) ?_
            obtain ⟨hPc, hDc⟩ := zz_sub2 (ws' := [(b 0, .inr (8, [.ref (b 1), .int (nI mt), .int (nI v_10_0), .int v_10_1, .int v_10_2, .int v_10_3, .int wr, .int wa, .int (gg 8), .int (gg 9), .ref (b 11), .ref (b 12), .ref (b 13), .int (nI mc), .int (nI mh), .ref (b 16), .ref (b 17), .ref (b 18), .ref (b 19), .ref (b 20), .ref (b 21), .ref (b 22), .ref (b 23), .ref (b 24), .int (nI mf), .ref (b 26), .ref (b 27), .ref (b 28), .ref (b 29), .ref (b 30), .ref (b 31), .ref (b 32), .int (gg 32), .int (nI md), .ref (b 35), .ref (b 36), .ref (b 37), .ref (b 38), .ref (b 39), .ref (b 40), .int (gg 40), .ref (b 42), .ref (b 43), .ref (b 44), .int (gg 44), .ref (b 46), .ref (b 47), .int (gg 47), .ref (b 49)])), (b 1, .inl (cB, 200, .inl ta))]) hP hD [2, 3] (by decide) rfl
            have hKc := hK.sub (tys' := [(cB, .byte)]) [0] rfl
            have hFc := zz_free1 hDc hS hA
            refine va_callv (va_runV (As := [.int (nI ml)]) (rest := []) ⟨hx, hb, hml, hown, hw⟩ (mx_next l dC dI b gg mt mc mh mf md v_10_0 v_10_1 v_10_2 v_10_3 wr wa cB ta ml cs H.size (by omega) (by omega) hcs hce) ⟨callB_of 1 hw (zz_good tw_310) rfl rfl rfl (hw _ tw_184) (hw _ tw_311) (by decide +kernel) ⟨Nat.le_of_ble_eq_true rfl, Nat.le_of_ble_eq_true rfl⟩, (hw _ tw_312), (hw _ tw_313)⟩ ⟨zz_blind, va_recv hKc hPc (ci := 8) (q0 := 0) rfl rfl, zz_pre hPc hKc hDc hN⟩ rfl rfl hl.1 rfl (lv_room (Nat.le_of_ble_eq_true rfl)) dX8_clause_135 ⟨Nat.le_of_ble_eq_true rfl, Nat.le_of_ble_eq_true rfl⟩) hS (fun q _ h => hFc q h) hFc (fun u_13 t H1 locs ht hvm e_13 hB hz1 hk1 hS => ?_)
            try dsimp only at e_13
            obtain ⟨v_13_0, v_13_1, v_13_2, v_13_3⟩ := u_13
            obtain ⟨hP1, hK1, hD1⟩ := hB
            rw [ht] at hP1
            have hK1 := va_K.moved hvm.symm hK1
            try dsimp only at e_13
            obtain ⟨hP, hD⟩ := va_join (wr := [(b 11, .inl (cZ, 7, .inl (upd ist (Int32.toNatClampNeg (nI qw)) (vp_nar .boolean 1)))), (b 12, .inl (cI, 7, .inl (upd nwc (Int32.toNatClampNeg (nI qw)) v_3_3)))]) (w1 := [(b 0, .inr (8, [.ref (b 1), .int (nI mt), .int (nI v_13_0), .int v_13_1, .int v_13_2, .int v_13_3, .int wr, .int wa, .int (gg 8), .int (gg 9), .ref (b 11), .ref (b 12), .ref (b 13), .int (nI mc), .int (nI mh), .ref (b 16), .ref (b 17), .ref (b 18), .ref (b 19), .ref (b 20), .ref (b 21), .ref (b 22), .ref (b 23), .ref (b 24), .int (nI mf), .ref (b 26), .ref (b 27), .ref (b 28), .ref (b 29), .ref (b 30), .ref (b 31), .ref (b 32), .int (gg 32), .int (nI md), .ref (b 35), .ref (b 36), .ref (b 37), .ref (b 38), .ref (b 39), .ref (b 40), .int (gg 40), .ref (b 42), .ref (b 43), .ref (b 44), .int (gg 44), .ref (b 46), .ref (b 47), .int (gg 47), .ref (b 49)])), (b 1, .inl (cB, 200, .inl ta))]) hP hD [2, 3] [0, 1] rfl rfl (by decide) (by decide) hk1 hFc hP1 hD1
            clear hk1 ht hvm
            generalize H1 = H at hP hS ⊢
            obtain ⟨hP, hD⟩ := zz_ty (D := (dC, dI)) (cl := vwCl) (A := A) (H := H) [(b 11, .inl (cZ, 7, .inl (upd ist (Int32.toNatClampNeg (nI qw)) (vp_nar .boolean 1)))), (b 12, .inl (cI, 7, .inl (upd nwc (Int32.toNatClampNeg (nI qw)) v_3_3))), (b 0, .inr (8, [.ref (b 1), .int (nI mt), .int (nI v_13_0), .int v_13_1, .int v_13_2, .int v_13_3, .int wr, .int wa, .int (gg 8), .int (gg 9), .ref (b 11), .ref (b 12), .ref (b 13), .int (nI mc), .int (nI mh), .ref (b 16), .ref (b 17), .ref (b 18), .ref (b 19), .ref (b 20), .ref (b 21), .ref (b 22), .ref (b 23), .ref (b 24), .int (nI mf), .ref (b 26), .ref (b 27), .ref (b 28), .ref (b 29), .ref (b 30), .ref (b 31), .ref (b 32), .int (gg 32), .int (nI md), .ref (b 35), .ref (b 36), .ref (b 37), .ref (b 38), .ref (b 39), .ref (b 40), .int (gg 40), .ref (b 42), .ref (b 43), .ref (b 44), .int (gg 44), .ref (b 46), .ref (b 47), .int (gg 47), .ref (b 49)])), (b 1, .inl (cB, 200, .inl ta))] hP hD rfl
            obtain ⟨tp3, hp3, hn3, ek3, td3, bd3, hR3⟩ := zz_np_R e_13 hen3.1 hF3
            have hle3 := zz_td_le td3 hn3
            obtain ⟨hP9, hD9⟩ := zz_sub2 (ws' := [(b 0, .inr (8, [.ref (b 1), .int (nI mt), .int (nI v_13_0), .int v_13_1, .int v_13_2, .int v_13_3, .int wr, .int wa, .int (gg 8), .int (gg 9), .ref (b 11), .ref (b 12), .ref (b 13), .int (nI mc), .int (nI mh), .ref (b 16), .ref (b 17), .ref (b 18), .ref (b 19), .ref (b 20), .ref (b 21), .ref (b 22), .ref (b 23), .ref (b 24), .int (nI mf), .ref (b 26), .ref (b 27), .ref (b 28), .ref (b 29), .ref (b 30), .ref (b 31), .ref (b 32), .int (gg 32), .int (nI md), .ref (b 35), .ref (b 36), .ref (b 37), .ref (b 38), .ref (b 39), .ref (b 40), .int (gg 40), .ref (b 42), .ref (b 43), .ref (b 44), .int (gg 44), .ref (b 46), .ref (b 47), .int (gg 47), .ref (b 49)])), (b 1, .inl (cB, 200, .inl ta)), (b 11, .inl (cZ, 7, .inl (upd ist (Int32.toNatClampNeg (nI qw)) (vp_nar .boolean 1)))), (b 12, .inl (cI, 7, .inl (upd nwc (Int32.toNatClampNeg (nI qw)) v_3_3)))]) hP hD [2, 3, 0, 1] (by decide) rfl
            have hK9 := hK.sub (tys' := [(cB, .byte), (cZ, .boolean), (cI, .int)]) [0, 1, 2] rfl
            exact W.vret hx hb hr (fun t ht hW => ⟨⟨(v_13_0, v_13_1, v_13_2, v_13_3, wr, wa, (upd ist (Int32.toNatClampNeg (nI qw)) (vp_nar .boolean 1)), (upd nwc (Int32.toNatClampNeg (nI qw)) v_3_3)), rfl, (Or.inr ⟨hwr, rfl, by omega, by omega, _, tp3, hn3, ek3, td3, bd3, hR3, rfl, rfl, hm2⟩), by rw [ht]; exact hP9, va_K.moved hW.alike hK9, hD9⟩, hS.F ht⟩) hS.2.2 dX8_clause_138
          · have zc_11 := c_11
            rw [← Int32.toInt_inj] at zc_11
            try rw [show (3 : Int32).toInt = 3 from by decide] at zc_11
            refine lv_aload_n hx hb dX8_clause_118 rfl (lv_at hl 1 rfl) ?_
            refine lv_iconst (v := 1) hx hb dX8_clause_119 (by decide) ?_
            obtain ⟨hPc, hDc⟩ := zz_sub2 (ws' := [(b 0, .inr (8, [.ref (b 1), .int (nI mt), .int (nI v_10_0), .int v_10_1, .int v_10_2, .int v_10_3, .int wr, .int wa, .int (gg 8), .int (gg 9), .ref (b 11), .ref (b 12), .ref (b 13), .int (nI mc), .int (nI mh), .ref (b 16), .ref (b 17), .ref (b 18), .ref (b 19), .ref (b 20), .ref (b 21), .ref (b 22), .ref (b 23), .ref (b 24), .int (nI mf), .ref (b 26), .ref (b 27), .ref (b 28), .ref (b 29), .ref (b 30), .ref (b 31), .ref (b 32), .int (gg 32), .int (nI md), .ref (b 35), .ref (b 36), .ref (b 37), .ref (b 38), .ref (b 39), .ref (b 40), .int (gg 40), .ref (b 42), .ref (b 43), .ref (b 44), .int (gg 44), .ref (b 46), .ref (b 47), .int (gg 47), .ref (b 49)]))]) hP hD [2] (by decide) rfl
            have hKc := hK.sub (tys' := []) [] rfl
            have hFc := zz_free1 hDc hS hA
            refine va_callv (va_runV (As := [.int 1]) (rest := []) ⟨hx, hb, hml, hown, hw⟩ (mx_fails l dC dI b gg mt mc mh mf md v_10_0 v_10_1 v_10_2 v_10_3 wr wa 1 H.size) ⟨callB_of 1 hw (zz_good tw_321) rfl rfl rfl (hw _ tw_184) (hw _ tw_322) (by decide +kernel) ⟨Nat.le_of_ble_eq_true rfl, Nat.le_of_ble_eq_true rfl⟩, (hw _ tw_323), (hw _ tw_324)⟩ ⟨zz_blind, va_recv hKc hPc (ci := 8) (q0 := 0) rfl rfl, zz_pre hPc hKc hDc hN⟩ rfl rfl hl.1 rfl (lv_room (Nat.le_of_ble_eq_true rfl)) dX8_clause_120 ⟨Nat.le_of_ble_eq_true rfl, Nat.le_of_ble_eq_true rfl⟩) hS (fun q _ h => hFc q h) hFc (fun u_14 t H1 locs ht hvm e_14 hB hz1 hk1 hS => ?_)
            try dsimp only at e_14
            obtain ⟨v_14_0, v_14_1⟩ := u_14
            obtain ⟨hP1, hK1, hD1⟩ := hB
            rw [ht] at hP1
            have hK1 := va_K.moved hvm.symm hK1
            try dsimp only at e_14
            obtain ⟨hP, hD⟩ := va_join (wr := [(b 11, .inl (cZ, 7, .inl (upd ist (Int32.toNatClampNeg (nI qw)) (vp_nar .boolean 1)))), (b 12, .inl (cI, 7, .inl (upd nwc (Int32.toNatClampNeg (nI qw)) v_3_3))), (b 1, .inl (cB, 200, .inl ta))]) (w1 := [(b 0, .inr (8, [.ref (b 1), .int (nI mt), .int (nI v_10_0), .int v_10_1, .int v_10_2, .int v_10_3, .int v_14_0, .int v_14_1, .int (gg 8), .int (gg 9), .ref (b 11), .ref (b 12), .ref (b 13), .int (nI mc), .int (nI mh), .ref (b 16), .ref (b 17), .ref (b 18), .ref (b 19), .ref (b 20), .ref (b 21), .ref (b 22), .ref (b 23), .ref (b 24), .int (nI mf), .ref (b 26), .ref (b 27), .ref (b 28), .ref (b 29), .ref (b 30), .ref (b 31), .ref (b 32), .int (gg 32), .int (nI md), .ref (b 35), .ref (b 36), .ref (b 37), .ref (b 38), .ref (b 39), .ref (b 40), .int (gg 40), .ref (b 42), .ref (b 43), .ref (b 44), .int (gg 44), .ref (b 46), .ref (b 47), .int (gg 47), .ref (b 49)]))]) hP hD [2] [0, 1, 3] rfl rfl (by decide) (by decide) hk1 hFc hP1 hD1
            clear hk1 ht hvm
            generalize H1 = H at hP hS ⊢
            obtain ⟨hP, hD⟩ := zz_ty (D := (dC, dI)) (cl := vwCl) (A := A) (H := H) [(b 11, .inl (cZ, 7, .inl (upd ist (Int32.toNatClampNeg (nI qw)) (vp_nar .boolean 1)))), (b 12, .inl (cI, 7, .inl (upd nwc (Int32.toNatClampNeg (nI qw)) v_3_3))), (b 1, .inl (cB, 200, .inl ta)), (b 0, .inr (8, [.ref (b 1), .int (nI mt), .int (nI v_10_0), .int v_10_1, .int v_10_2, .int v_10_3, .int v_14_0, .int v_14_1, .int (gg 8), .int (gg 9), .ref (b 11), .ref (b 12), .ref (b 13), .int (nI mc), .int (nI mh), .ref (b 16), .ref (b 17), .ref (b 18), .ref (b 19), .ref (b 20), .ref (b 21), .ref (b 22), .ref (b 23), .ref (b 24), .int (nI mf), .ref (b 26), .ref (b 27), .ref (b 28), .ref (b 29), .ref (b 30), .ref (b 31), .ref (b 32), .int (gg 32), .int (nI md), .ref (b 35), .ref (b 36), .ref (b 37), .ref (b 38), .ref (b 39), .ref (b 40), .int (gg 40), .ref (b 42), .ref (b 43), .ref (b 44), .int (gg 44), .ref (b 46), .ref (b 47), .int (gg 47), .ref (b 49)]))] hP hD rfl
            obtain ⟨ge_14, he_14⟩ := e_14.elim (fun h => h.2) (fun h => absurd hwr h.1)
            have ne_14 : ¬ v_14_0 = 0 := by rw [ge_14]; decide
            refine lv_goto (tgt := 138) hx hb dX8_clause_123 (by decide) ?_
            obtain ⟨hP9, hD9⟩ := zz_sub2 (ws' := [(b 0, .inr (8, [.ref (b 1), .int (nI mt), .int (nI v_10_0), .int v_10_1, .int v_10_2, .int v_10_3, .int v_14_0, .int v_14_1, .int (gg 8), .int (gg 9), .ref (b 11), .ref (b 12), .ref (b 13), .int (nI mc), .int (nI mh), .ref (b 16), .ref (b 17), .ref (b 18), .ref (b 19), .ref (b 20), .ref (b 21), .ref (b 22), .ref (b 23), .ref (b 24), .int (nI mf), .ref (b 26), .ref (b 27), .ref (b 28), .ref (b 29), .ref (b 30), .ref (b 31), .ref (b 32), .int (gg 32), .int (nI md), .ref (b 35), .ref (b 36), .ref (b 37), .ref (b 38), .ref (b 39), .ref (b 40), .int (gg 40), .ref (b 42), .ref (b 43), .ref (b 44), .int (gg 44), .ref (b 46), .ref (b 47), .int (gg 47), .ref (b 49)])), (b 1, .inl (cB, 200, .inl ta)), (b 11, .inl (cZ, 7, .inl (upd ist (Int32.toNatClampNeg (nI qw)) (vp_nar .boolean 1)))), (b 12, .inl (cI, 7, .inl (upd nwc (Int32.toNatClampNeg (nI qw)) v_3_3)))]) hP hD [3, 2, 0, 1] (by decide) rfl
            have hK9 := hK.sub (tys' := [(cB, .byte), (cZ, .boolean), (cI, .int)]) [0, 1, 2] rfl
            exact W.vret hx hb hr (fun t ht hW => ⟨⟨(v_10_0, v_10_1, v_10_2, v_10_3, v_14_0, v_14_1, (upd ist (Int32.toNatClampNeg (nI qw)) (vp_nar .boolean 1)), (upd nwc (Int32.toNatClampNeg (nI qw)) v_3_3)), rfl, (Or.inl ⟨ne_14, ge_14.trans (by rw [(zz_F_ne td2 hn2 bd2 hR2 (Or.inr (Or.inr rfl)) c_11 (fun _ z => absurd (show (3 : Nat) = 1 from z) (by decide))).1]; rfl), he_14.trans (ek2.trans (zz_F_ne td2 hn2 bd2 hR2 (Or.inr (Or.inr rfl)) c_11 (fun _ z => absurd (show (3 : Nat) = 1 from z) (by decide))).2.symm), by omega, by omega⟩), by rw [ht]; exact hP9, va_K.moved hW.alike hK9, hD9⟩, hS.F ht⟩) hS.2.2 dX8_clause_138
        · have zc_8 := c_8
          rw [e_7, zz_in0, Int32.le_iff_toInt_le, Int32.le_iff_toInt_le] at zc_8
          refine lv_aload_n hx hb dX8_clause_83 rfl (lv_at hl 1 rfl) ?_
          refine lv_iconst (v := 3) hx hb dX8_clause_84 (by decide) ?_
          obtain ⟨hPc, hDc⟩ := zz_sub2 (ws' := [(b 0, .inr (8, [.ref (b 1), .int (nI mt), .int (nI v_3_0), .int v_3_1, .int v_3_2, .int v_3_3, .int wr, .int wa, .int (gg 8), .int (gg 9), .ref (b 11), .ref (b 12), .ref (b 13), .int (nI mc), .int (nI mh), .ref (b 16), .ref (b 17), .ref (b 18), .ref (b 19), .ref (b 20), .ref (b 21), .ref (b 22), .ref (b 23), .ref (b 24), .int (nI mf), .ref (b 26), .ref (b 27), .ref (b 28), .ref (b 29), .ref (b 30), .ref (b 31), .ref (b 32), .int (gg 32), .int (nI md), .ref (b 35), .ref (b 36), .ref (b 37), .ref (b 38), .ref (b 39), .ref (b 40), .int (gg 40), .ref (b 42), .ref (b 43), .ref (b 44), .int (gg 44), .ref (b 46), .ref (b 47), .int (gg 47), .ref (b 49)]))]) hP hD [2] (by decide) rfl
          have hKc := hK.sub (tys' := []) [] rfl
          have hFc := zz_free1 hDc hS hA
          refine va_callv (va_runV (As := [.int 3]) (rest := []) ⟨hx, hb, hml, hown, hw⟩ (mx_fails l dC dI b gg mt mc mh mf md v_3_0 v_3_1 v_3_2 v_3_3 wr wa 3 H.size) ⟨callB_of 1 hw (zz_good tw_321) rfl rfl rfl (hw _ tw_184) (hw _ tw_322) (by decide +kernel) ⟨Nat.le_of_ble_eq_true rfl, Nat.le_of_ble_eq_true rfl⟩, (hw _ tw_323), (hw _ tw_324)⟩ ⟨zz_blind, va_recv hKc hPc (ci := 8) (q0 := 0) rfl rfl, zz_pre hPc hKc hDc hN⟩ rfl rfl hl.1 rfl (lv_room (Nat.le_of_ble_eq_true rfl)) dX8_clause_85 ⟨Nat.le_of_ble_eq_true rfl, Nat.le_of_ble_eq_true rfl⟩) hS (fun q _ h => hFc q h) hFc (fun u_15 t H1 locs ht hvm e_15 hB hz1 hk1 hS => ?_)
          try dsimp only at e_15
          obtain ⟨v_15_0, v_15_1⟩ := u_15
          obtain ⟨hP1, hK1, hD1⟩ := hB
          rw [ht] at hP1
          have hK1 := va_K.moved hvm.symm hK1
          try dsimp only at e_15
          obtain ⟨hP, hD⟩ := va_join (wr := [(b 11, .inl (cZ, 7, .inl (upd ist (Int32.toNatClampNeg (nI qw)) (vp_nar .boolean 1)))), (b 12, .inl (cI, 7, .inl nwc)), (b 1, .inl (cB, 200, .inl ta))]) (w1 := [(b 0, .inr (8, [.ref (b 1), .int (nI mt), .int (nI v_3_0), .int v_3_1, .int v_3_2, .int v_3_3, .int v_15_0, .int v_15_1, .int (gg 8), .int (gg 9), .ref (b 11), .ref (b 12), .ref (b 13), .int (nI mc), .int (nI mh), .ref (b 16), .ref (b 17), .ref (b 18), .ref (b 19), .ref (b 20), .ref (b 21), .ref (b 22), .ref (b 23), .ref (b 24), .int (nI mf), .ref (b 26), .ref (b 27), .ref (b 28), .ref (b 29), .ref (b 30), .ref (b 31), .ref (b 32), .int (gg 32), .int (nI md), .ref (b 35), .ref (b 36), .ref (b 37), .ref (b 38), .ref (b 39), .ref (b 40), .int (gg 40), .ref (b 42), .ref (b 43), .ref (b 44), .int (gg 44), .ref (b 46), .ref (b 47), .int (gg 47), .ref (b 49)]))]) hP hD [2] [0, 1, 3] rfl rfl (by decide) (by decide) hk1 hFc hP1 hD1
          clear hk1 ht hvm
          generalize H1 = H at hP hS ⊢
          obtain ⟨hP, hD⟩ := zz_ty (D := (dC, dI)) (cl := vwCl) (A := A) (H := H) [(b 11, .inl (cZ, 7, .inl (upd ist (Int32.toNatClampNeg (nI qw)) (vp_nar .boolean 1)))), (b 12, .inl (cI, 7, .inl nwc)), (b 1, .inl (cB, 200, .inl ta)), (b 0, .inr (8, [.ref (b 1), .int (nI mt), .int (nI v_3_0), .int v_3_1, .int v_3_2, .int v_3_3, .int v_15_0, .int v_15_1, .int (gg 8), .int (gg 9), .ref (b 11), .ref (b 12), .ref (b 13), .int (nI mc), .int (nI mh), .ref (b 16), .ref (b 17), .ref (b 18), .ref (b 19), .ref (b 20), .ref (b 21), .ref (b 22), .ref (b 23), .ref (b 24), .int (nI mf), .ref (b 26), .ref (b 27), .ref (b 28), .ref (b 29), .ref (b 30), .ref (b 31), .ref (b 32), .int (gg 32), .int (nI md), .ref (b 35), .ref (b 36), .ref (b 37), .ref (b 38), .ref (b 39), .ref (b 40), .int (gg 40), .ref (b 42), .ref (b 43), .ref (b 44), .int (gg 44), .ref (b 46), .ref (b 47), .int (gg 47), .ref (b 49)]))] hP hD rfl
          obtain ⟨ge_15, he_15⟩ := e_15.elim (fun h => h.2) (fun h => absurd hwr h.1)
          have ne_15 : ¬ v_15_0 = 0 := by rw [ge_15]; decide
          refine lv_aload_n hx hb dX8_clause_88 rfl (lv_at hl 1 rfl) ?_
          refine va_get (D := (dC, dI)) (ci := 8) (v := .ref (b 12)) (C := RX8) (T := TX8) (N := 49) hx hb hw zz_inX8 hown hK hP 3 rfl rfl 11 (by decide) (hw _ tw_320) (fun _ h9 => h9) rfl dX8_clause_89 ?_
          refine lv_iload_n hx hb dX8_clause_92 rfl (lv_at hl 0 rfl) ?_
          refine lv_aload_n hx hb dX8_clause_93 rfl (lv_at hl 1 rfl) ?_
          refine va_get (D := (dC, dI)) (ci := 8) (v := .int v_3_3) (C := RX8) (T := TX8) (N := 49) hx hb hw zz_inX8 hown hK hP 3 rfl rfl 5 (by decide) (hw _ tw_303) (fun _ h9 => h9) rfl dX8_clause_94 ?_
          refine va_iast hx hb hK hP hD hS 1 2 rfl rfl (vp_in_iff.mpr (by rw [zz_toInt qw (by omega)]; constructor <;> omega)) dX8_clause_97 (fun H locs hP hD hS => ?_)
          obtain ⟨hP, hD⟩ := zz_ty (D := (dC, dI)) (cl := vwCl) (A := A) (H := H) [(b 11, .inl (cZ, 7, .inl (upd ist (Int32.toNatClampNeg (nI qw)) (vp_nar .boolean 1)))), (b 12, .inl (cI, 7, .inl (upd nwc (Int32.toNatClampNeg (nI qw)) v_3_3))), (b 1, .inl (cB, 200, .inl ta)), (b 0, .inr (8, [.ref (b 1), .int (nI mt), .int (nI v_3_0), .int v_3_1, .int v_3_2, .int v_3_3, .int v_15_0, .int v_15_1, .int (gg 8), .int (gg 9), .ref (b 11), .ref (b 12), .ref (b 13), .int (nI mc), .int (nI mh), .ref (b 16), .ref (b 17), .ref (b 18), .ref (b 19), .ref (b 20), .ref (b 21), .ref (b 22), .ref (b 23), .ref (b 24), .int (nI mf), .ref (b 26), .ref (b 27), .ref (b 28), .ref (b 29), .ref (b 30), .ref (b 31), .ref (b 32), .int (gg 32), .int (nI md), .ref (b 35), .ref (b 36), .ref (b 37), .ref (b 38), .ref (b 39), .ref (b 40), .int (gg 40), .ref (b 42), .ref (b 43), .ref (b 44), .int (gg 44), .ref (b 46), .ref (b 47), .int (gg 47), .ref (b 49)]))] hP hD rfl
          refine lv_aload_n hx hb dX8_clause_98 rfl (lv_at hl 1 rfl) ?_
          refine va_get (D := (dC, dI)) (ci := 8) (v := .int v_15_0) (C := RX8) (T := TX8) (N := 49) hx hb hw zz_inX8 hown hK hP 3 rfl rfl 6 (by decide) (hw _ tw_270) (fun _ h9 => h9) rfl dX8_clause_99 ?_
          refine lv_if_ne (tgt := 110) hx hb dX8_clause_102 (by decide) (fun _ => ?_) (fun c_16 => absurd c_16 ne_15)
          refine lv_aload_n hx hb dX8_clause_110 rfl (lv_at hl 1 rfl) ?_
          refine va_get (D := (dC, dI)) (ci := 8) (v := .int v_3_2) (C := RX8) (T := TX8) (N := 49) hx hb hw zz_inX8 hown hK hP 3 rfl rfl 4 (by decide) (hw _ tw_302) (fun _ h9 => h9) rfl dX8_clause_111 ?_
          refine lv_iconst (v := 3) hx hb dX8_clause_114 (by decide) ?_
          refine lv_icmp_eq (tgt := 126) hx hb dX8_clause_115 (by decide) (fun c_17 => ?_) (fun c_17 => ?_)
          · have zc_17 := c_17
            rw [← Int32.toInt_inj] at zc_17
            try rw [show (3 : Int32).toInt = 3 from by decide] at zc_17
            refine lv_aload_n hx hb dX8_clause_126 rfl (lv_at hl 1 rfl) ?_
            refine va_get (D := (dC, dI)) (ci := 8) (v := .int v_15_0) (C := RX8) (T := TX8) (N := 49) hx hb hw zz_inX8 hown hK hP 3 rfl rfl 6 (by decide) (hw _ tw_270) (fun _ h9 => h9) rfl dX8_clause_127 ?_
            refine lv_if_ne (tgt := 138) hx hb dX8_clause_130 (by decide) (fun _ => ?_) (fun c_18 => absurd c_18 ne_15)
            obtain ⟨hP9, hD9⟩ := zz_sub2 (ws' := [(b 0, .inr (8, [.ref (b 1), .int (nI mt), .int (nI v_3_0), .int v_3_1, .int v_3_2, .int v_3_3, .int v_15_0, .int v_15_1, .int (gg 8), .int (gg 9), .ref (b 11), .ref (b 12), .ref (b 13), .int (nI mc), .int (nI mh), .ref (b 16), .ref (b 17), .ref (b 18), .ref (b 19), .ref (b 20), .ref (b 21), .ref (b 22), .ref (b 23), .ref (b 24), .int (nI mf), .ref (b 26), .ref (b 27), .ref (b 28), .ref (b 29), .ref (b 30), .ref (b 31), .ref (b 32), .int (gg 32), .int (nI md), .ref (b 35), .ref (b 36), .ref (b 37), .ref (b 38), .ref (b 39), .ref (b 40), .int (gg 40), .ref (b 42), .ref (b 43), .ref (b 44), .int (gg 44), .ref (b 46), .ref (b 47), .int (gg 47), .ref (b 49)])), (b 1, .inl (cB, 200, .inl ta)), (b 11, .inl (cZ, 7, .inl (upd ist (Int32.toNatClampNeg (nI qw)) (vp_nar .boolean 1)))), (b 12, .inl (cI, 7, .inl (upd nwc (Int32.toNatClampNeg (nI qw)) v_3_3)))]) hP hD [3, 2, 0, 1] (by decide) rfl
            have hK9 := hK.sub (tys' := [(cB, .byte), (cZ, .boolean), (cI, .int)]) [0, 1, 2] rfl
            exact W.vret hx hb hr (fun t ht hW => ⟨⟨(v_3_0, v_3_1, v_3_2, v_3_3, v_15_0, v_15_1, (upd ist (Int32.toNatClampNeg (nI qw)) (vp_nar .boolean 1)), (upd nwc (Int32.toNatClampNeg (nI qw)) v_3_3)), rfl, (Or.inl ⟨ne_15, ge_15.trans (by rw [(fOut (show ¬ ((zz_lo7 qw).toInt ≤ v_3_3.toInt ∧ v_3_3.toInt ≤ (zz_hi7 qw).toInt) by omega)).1]; rfl), he_15.trans (ek1.trans (fOut (show ¬ ((zz_lo7 qw).toInt ≤ v_3_3.toInt ∧ v_3_3.toInt ≤ (zz_hi7 qw).toInt) by omega)).2.symm), by omega, by omega⟩), by rw [ht]; exact hP9, va_K.moved hW.alike hK9, hD9⟩, hS.F ht⟩) hS.2.2 dX8_clause_138
          · have zc_17 := c_17
            rw [← Int32.toInt_inj] at zc_17
            try rw [show (3 : Int32).toInt = 3 from by decide] at zc_17
            refine lv_aload_n hx hb dX8_clause_118 rfl (lv_at hl 1 rfl) ?_
            refine lv_iconst (v := 1) hx hb dX8_clause_119 (by decide) ?_
            obtain ⟨hPc, hDc⟩ := zz_sub2 (ws' := [(b 0, .inr (8, [.ref (b 1), .int (nI mt), .int (nI v_3_0), .int v_3_1, .int v_3_2, .int v_3_3, .int v_15_0, .int v_15_1, .int (gg 8), .int (gg 9), .ref (b 11), .ref (b 12), .ref (b 13), .int (nI mc), .int (nI mh), .ref (b 16), .ref (b 17), .ref (b 18), .ref (b 19), .ref (b 20), .ref (b 21), .ref (b 22), .ref (b 23), .ref (b 24), .int (nI mf), .ref (b 26), .ref (b 27), .ref (b 28), .ref (b 29), .ref (b 30), .ref (b 31), .ref (b 32), .int (gg 32), .int (nI md), .ref (b 35), .ref (b 36), .ref (b 37), .ref (b 38), .ref (b 39), .ref (b 40), .int (gg 40), .ref (b 42), .ref (b 43), .ref (b 44), .int (gg 44), .ref (b 46), .ref (b 47), .int (gg 47), .ref (b 49)]))]) hP hD [3] (by decide) rfl
            have hKc := hK.sub (tys' := []) [] rfl
            have hFc := zz_free1 hDc hS hA
            refine va_callv (va_runV (As := [.int 1]) (rest := []) ⟨hx, hb, hml, hown, hw⟩ (mx_fails l dC dI b gg mt mc mh mf md v_3_0 v_3_1 v_3_2 v_3_3 v_15_0 v_15_1 1 H.size) ⟨callB_of 1 hw (zz_good tw_321) rfl rfl rfl (hw _ tw_184) (hw _ tw_322) (by decide +kernel) ⟨Nat.le_of_ble_eq_true rfl, Nat.le_of_ble_eq_true rfl⟩, (hw _ tw_323), (hw _ tw_324)⟩ ⟨zz_blind, va_recv hKc hPc (ci := 8) (q0 := 0) rfl rfl, zz_pre hPc hKc hDc hN⟩ rfl rfl hl.1 rfl (lv_room (Nat.le_of_ble_eq_true rfl)) dX8_clause_120 ⟨Nat.le_of_ble_eq_true rfl, Nat.le_of_ble_eq_true rfl⟩) hS (fun q _ h => hFc q h) hFc (fun u_19 t H1 locs ht hvm e_19 hB hz1 hk1 hS => ?_)
            try dsimp only at e_19
            obtain ⟨v_19_0, v_19_1⟩ := u_19
            obtain ⟨hP1, hK1, hD1⟩ := hB
            rw [ht] at hP1
            have hK1 := va_K.moved hvm.symm hK1
            try dsimp only at e_19
            obtain ⟨hP, hD⟩ := va_join (wr := [(b 11, .inl (cZ, 7, .inl (upd ist (Int32.toNatClampNeg (nI qw)) (vp_nar .boolean 1)))), (b 12, .inl (cI, 7, .inl (upd nwc (Int32.toNatClampNeg (nI qw)) v_3_3))), (b 1, .inl (cB, 200, .inl ta))]) (w1 := [(b 0, .inr (8, [.ref (b 1), .int (nI mt), .int (nI v_3_0), .int v_3_1, .int v_3_2, .int v_3_3, .int v_19_0, .int v_19_1, .int (gg 8), .int (gg 9), .ref (b 11), .ref (b 12), .ref (b 13), .int (nI mc), .int (nI mh), .ref (b 16), .ref (b 17), .ref (b 18), .ref (b 19), .ref (b 20), .ref (b 21), .ref (b 22), .ref (b 23), .ref (b 24), .int (nI mf), .ref (b 26), .ref (b 27), .ref (b 28), .ref (b 29), .ref (b 30), .ref (b 31), .ref (b 32), .int (gg 32), .int (nI md), .ref (b 35), .ref (b 36), .ref (b 37), .ref (b 38), .ref (b 39), .ref (b 40), .int (gg 40), .ref (b 42), .ref (b 43), .ref (b 44), .int (gg 44), .ref (b 46), .ref (b 47), .int (gg 47), .ref (b 49)]))]) hP hD [3] [0, 1, 2] rfl rfl (by decide) (by decide) hk1 hFc hP1 hD1
            clear hk1 ht hvm
            generalize H1 = H at hP hS ⊢
            obtain ⟨hP, hD⟩ := zz_ty (D := (dC, dI)) (cl := vwCl) (A := A) (H := H) [(b 11, .inl (cZ, 7, .inl (upd ist (Int32.toNatClampNeg (nI qw)) (vp_nar .boolean 1)))), (b 12, .inl (cI, 7, .inl (upd nwc (Int32.toNatClampNeg (nI qw)) v_3_3))), (b 1, .inl (cB, 200, .inl ta)), (b 0, .inr (8, [.ref (b 1), .int (nI mt), .int (nI v_3_0), .int v_3_1, .int v_3_2, .int v_3_3, .int v_19_0, .int v_19_1, .int (gg 8), .int (gg 9), .ref (b 11), .ref (b 12), .ref (b 13), .int (nI mc), .int (nI mh), .ref (b 16), .ref (b 17), .ref (b 18), .ref (b 19), .ref (b 20), .ref (b 21), .ref (b 22), .ref (b 23), .ref (b 24), .int (nI mf), .ref (b 26), .ref (b 27), .ref (b 28), .ref (b 29), .ref (b 30), .ref (b 31), .ref (b 32), .int (gg 32), .int (nI md), .ref (b 35), .ref (b 36), .ref (b 37), .ref (b 38), .ref (b 39), .ref (b 40), .int (gg 40), .ref (b 42), .ref (b 43), .ref (b 44), .int (gg 44), .ref (b 46), .ref (b 47), .int (gg 47), .ref (b 49)]))] hP hD rfl
            obtain ⟨ge_19, he_19⟩ := e_19.elim (fun h => absurd h.1 ne_15) (fun h => h.2)
            have ne_19 : ¬ v_19_0 = 0 := by rw [ge_19]; exact ne_15
            have ge_19 := ge_19.trans ge_15
            have he_19 := he_19.trans he_15
            refine lv_goto (tgt := 138) hx hb dX8_clause_123 (by decide) ?_
            obtain ⟨hP9, hD9⟩ := zz_sub2 (ws' := [(b 0, .inr (8, [.ref (b 1), .int (nI mt), .int (nI v_3_0), .int v_3_1, .int v_3_2, .int v_3_3, .int v_19_0, .int v_19_1, .int (gg 8), .int (gg 9), .ref (b 11), .ref (b 12), .ref (b 13), .int (nI mc), .int (nI mh), .ref (b 16), .ref (b 17), .ref (b 18), .ref (b 19), .ref (b 20), .ref (b 21), .ref (b 22), .ref (b 23), .ref (b 24), .int (nI mf), .ref (b 26), .ref (b 27), .ref (b 28), .ref (b 29), .ref (b 30), .ref (b 31), .ref (b 32), .int (gg 32), .int (nI md), .ref (b 35), .ref (b 36), .ref (b 37), .ref (b 38), .ref (b 39), .ref (b 40), .int (gg 40), .ref (b 42), .ref (b 43), .ref (b 44), .int (gg 44), .ref (b 46), .ref (b 47), .int (gg 47), .ref (b 49)])), (b 1, .inl (cB, 200, .inl ta)), (b 11, .inl (cZ, 7, .inl (upd ist (Int32.toNatClampNeg (nI qw)) (vp_nar .boolean 1)))), (b 12, .inl (cI, 7, .inl (upd nwc (Int32.toNatClampNeg (nI qw)) v_3_3)))]) hP hD [3, 2, 0, 1] (by decide) rfl
            have hK9 := hK.sub (tys' := [(cB, .byte), (cZ, .boolean), (cI, .int)]) [0, 1, 2] rfl
            exact W.vret hx hb hr (fun t ht hW => ⟨⟨(v_3_0, v_3_1, v_3_2, v_3_3, v_19_0, v_19_1, (upd ist (Int32.toNatClampNeg (nI qw)) (vp_nar .boolean 1)), (upd nwc (Int32.toNatClampNeg (nI qw)) v_3_3)), rfl, (Or.inl ⟨ne_19, ge_19.trans (by rw [(fOut (show ¬ ((zz_lo7 qw).toInt ≤ v_3_3.toInt ∧ v_3_3.toInt ≤ (zz_hi7 qw).toInt) by omega)).1]; rfl), he_19.trans (ek1.trans (fOut (show ¬ ((zz_lo7 qw).toInt ≤ v_3_3.toInt ∧ v_3_3.toInt ≤ (zz_hi7 qw).toInt) by omega)).2.symm), by omega, by omega⟩), by rw [ht]; exact hP9, va_K.moved hW.alike hK9, hD9⟩, hS.F ht⟩) hS.2.2 dX8_clause_138
      · have zc_4 := c_4
        rw [← Int32.toInt_inj] at zc_4
        try rw [show (2 : Int32).toInt = 2 from by decide] at zc_4
        refine lv_aload_n hx hb dX8_clause_54 rfl (lv_at hl 1 rfl) ?_
        refine lv_iconst (v := 1) hx hb dX8_clause_55 (by decide) ?_
        obtain ⟨hPc, hDc⟩ := zz_sub2 (ws' := [(b 0, .inr (8, [.ref (b 1), .int (nI mt), .int (nI v_3_0), .int v_3_1, .int v_3_2, .int v_3_3, .int wr, .int wa, .int (gg 8), .int (gg 9), .ref (b 11), .ref (b 12), .ref (b 13), .int (nI mc), .int (nI mh), .ref (b 16), .ref (b 17), .ref (b 18), .ref (b 19), .ref (b 20), .ref (b 21), .ref (b 22), .ref (b 23), .ref (b 24), .int (nI mf), .ref (b 26), .ref (b 27), .ref (b 28), .ref (b 29), .ref (b 30), .ref (b 31), .ref (b 32), .int (gg 32), .int (nI md), .ref (b 35), .ref (b 36), .ref (b 37), .ref (b 38), .ref (b 39), .ref (b 40), .int (gg 40), .ref (b 42), .ref (b 43), .ref (b 44), .int (gg 44), .ref (b 46), .ref (b 47), .int (gg 47), .ref (b 49)]))]) hP hD [2] (by decide) rfl
        have hKc := hK.sub (tys' := []) [] rfl
        have hFc := zz_free1 hDc hS hA
        refine va_callv (va_runV (As := [.int 1]) (rest := []) ⟨hx, hb, hml, hown, hw⟩ (mx_fails l dC dI b gg mt mc mh mf md v_3_0 v_3_1 v_3_2 v_3_3 wr wa 1 H.size) ⟨callB_of 1 hw (zz_good tw_321) rfl rfl rfl (hw _ tw_184) (hw _ tw_322) (by decide +kernel) ⟨Nat.le_of_ble_eq_true rfl, Nat.le_of_ble_eq_true rfl⟩, (hw _ tw_323), (hw _ tw_324)⟩ ⟨zz_blind, va_recv hKc hPc (ci := 8) (q0 := 0) rfl rfl, zz_pre hPc hKc hDc hN⟩ rfl rfl hl.1 rfl (lv_room (Nat.le_of_ble_eq_true rfl)) dX8_clause_56 ⟨Nat.le_of_ble_eq_true rfl, Nat.le_of_ble_eq_true rfl⟩) hS (fun q _ h => hFc q h) hFc (fun u_20 t H1 locs ht hvm e_20 hB hz1 hk1 hS => ?_)
        try dsimp only at e_20
        obtain ⟨v_20_0, v_20_1⟩ := u_20
        obtain ⟨hP1, hK1, hD1⟩ := hB
        rw [ht] at hP1
        have hK1 := va_K.moved hvm.symm hK1
        try dsimp only at e_20
        obtain ⟨hP, hD⟩ := va_join (wr := [(b 11, .inl (cZ, 7, .inl (upd ist (Int32.toNatClampNeg (nI qw)) (vp_nar .boolean 1)))), (b 12, .inl (cI, 7, .inl nwc)), (b 1, .inl (cB, 200, .inl ta))]) (w1 := [(b 0, .inr (8, [.ref (b 1), .int (nI mt), .int (nI v_3_0), .int v_3_1, .int v_3_2, .int v_3_3, .int v_20_0, .int v_20_1, .int (gg 8), .int (gg 9), .ref (b 11), .ref (b 12), .ref (b 13), .int (nI mc), .int (nI mh), .ref (b 16), .ref (b 17), .ref (b 18), .ref (b 19), .ref (b 20), .ref (b 21), .ref (b 22), .ref (b 23), .ref (b 24), .int (nI mf), .ref (b 26), .ref (b 27), .ref (b 28), .ref (b 29), .ref (b 30), .ref (b 31), .ref (b 32), .int (gg 32), .int (nI md), .ref (b 35), .ref (b 36), .ref (b 37), .ref (b 38), .ref (b 39), .ref (b 40), .int (gg 40), .ref (b 42), .ref (b 43), .ref (b 44), .int (gg 44), .ref (b 46), .ref (b 47), .int (gg 47), .ref (b 49)]))]) hP hD [2] [0, 1, 3] rfl rfl (by decide) (by decide) hk1 hFc hP1 hD1
        clear hk1 ht hvm
        generalize H1 = H at hP hS ⊢
        obtain ⟨hP, hD⟩ := zz_ty (D := (dC, dI)) (cl := vwCl) (A := A) (H := H) [(b 11, .inl (cZ, 7, .inl (upd ist (Int32.toNatClampNeg (nI qw)) (vp_nar .boolean 1)))), (b 12, .inl (cI, 7, .inl nwc)), (b 1, .inl (cB, 200, .inl ta)), (b 0, .inr (8, [.ref (b 1), .int (nI mt), .int (nI v_3_0), .int v_3_1, .int v_3_2, .int v_3_3, .int v_20_0, .int v_20_1, .int (gg 8), .int (gg 9), .ref (b 11), .ref (b 12), .ref (b 13), .int (nI mc), .int (nI mh), .ref (b 16), .ref (b 17), .ref (b 18), .ref (b 19), .ref (b 20), .ref (b 21), .ref (b 22), .ref (b 23), .ref (b 24), .int (nI mf), .ref (b 26), .ref (b 27), .ref (b 28), .ref (b 29), .ref (b 30), .ref (b 31), .ref (b 32), .int (gg 32), .int (nI md), .ref (b 35), .ref (b 36), .ref (b 37), .ref (b 38), .ref (b 39), .ref (b 40), .int (gg 40), .ref (b 42), .ref (b 43), .ref (b 44), .int (gg 44), .ref (b 46), .ref (b 47), .int (gg 47), .ref (b 49)]))] hP hD rfl
        obtain ⟨ge_20, he_20⟩ := e_20.elim (fun h => h.2) (fun h => absurd hwr h.1)
        have ne_20 : ¬ v_20_0 = 0 := by rw [ge_20]; decide
        refine lv_goto (tgt := 88) hx hb dX8_clause_59 (by decide) ?_
        refine lv_aload_n hx hb dX8_clause_88 rfl (lv_at hl 1 rfl) ?_
        refine va_get (D := (dC, dI)) (ci := 8) (v := .ref (b 12)) (C := RX8) (T := TX8) (N := 49) hx hb hw zz_inX8 hown hK hP 3 rfl rfl 11 (by decide) (hw _ tw_320) (fun _ h9 => h9) rfl dX8_clause_89 ?_
        refine lv_iload_n hx hb dX8_clause_92 rfl (lv_at hl 0 rfl) ?_
        refine lv_aload_n hx hb dX8_clause_93 rfl (lv_at hl 1 rfl) ?_
        refine va_get (D := (dC, dI)) (ci := 8) (v := .int v_3_3) (C := RX8) (T := TX8) (N := 49) hx hb hw zz_inX8 hown hK hP 3 rfl rfl 5 (by decide) (hw _ tw_303) (fun _ h9 => h9) rfl dX8_clause_94 ?_
        refine va_iast hx hb hK hP hD hS 1 2 rfl rfl (vp_in_iff.mpr (by rw [zz_toInt qw (by omega)]; constructor <;> omega)) dX8_clause_97 (fun H locs hP hD hS => ?_)
        obtain ⟨hP, hD⟩ := zz_ty (D := (dC, dI)) (cl := vwCl) (A := A) (H := H) [(b 11, .inl (cZ, 7, .inl (upd ist (Int32.toNatClampNeg (nI qw)) (vp_nar .boolean 1)))), (b 12, .inl (cI, 7, .inl (upd nwc (Int32.toNatClampNeg (nI qw)) v_3_3))), (b 1, .inl (cB, 200, .inl ta)), (b 0, .inr (8, [.ref (b 1), .int (nI mt), .int (nI v_3_0), .int v_3_1, .int v_3_2, .int v_3_3, .int v_20_0, .int v_20_1, .int (gg 8), .int (gg 9), .ref (b 11), .ref (b 12), .ref (b 13), .int (nI mc), .int (nI mh), .ref (b 16), .ref (b 17), .ref (b 18), .ref (b 19), .ref (b 20), .ref (b 21), .ref (b 22), .ref (b 23), .ref (b 24), .int (nI mf), .ref (b 26), .ref (b 27), .ref (b 28), .ref (b 29), .ref (b 30), .ref (b 31), .ref (b 32), .int (gg 32), .int (nI md), .ref (b 35), .ref (b 36), .ref (b 37), .ref (b 38), .ref (b 39), .ref (b 40), .int (gg 40), .ref (b 42), .ref (b 43), .ref (b 44), .int (gg 44), .ref (b 46), .ref (b 47), .int (gg 47), .ref (b 49)]))] hP hD rfl
        refine lv_aload_n hx hb dX8_clause_98 rfl (lv_at hl 1 rfl) ?_
        refine va_get (D := (dC, dI)) (ci := 8) (v := .int v_20_0) (C := RX8) (T := TX8) (N := 49) hx hb hw zz_inX8 hown hK hP 3 rfl rfl 6 (by decide) (hw _ tw_270) (fun _ h9 => h9) rfl dX8_clause_99 ?_
        refine lv_if_ne (tgt := 110) hx hb dX8_clause_102 (by decide) (fun _ => ?_) (fun c_21 => absurd c_21 ne_20)
        refine lv_aload_n hx hb dX8_clause_110 rfl (lv_at hl 1 rfl) ?_
        refine va_get (D := (dC, dI)) (ci := 8) (v := .int v_3_2) (C := RX8) (T := TX8) (N := 49) hx hb hw zz_inX8 hown hK hP 3 rfl rfl 4 (by decide) (hw _ tw_302) (fun _ h9 => h9) rfl dX8_clause_111 ?_
        refine lv_iconst (v := 3) hx hb dX8_clause_114 (by decide) ?_
        refine lv_icmp_eq (tgt := 126) hx hb dX8_clause_115 (by decide) (fun c_22 => ?_) (fun c_22 => ?_)
        · have zc_22 := c_22
          rw [← Int32.toInt_inj] at zc_22
          try rw [show (3 : Int32).toInt = 3 from by decide] at zc_22
          refine lv_aload_n hx hb dX8_clause_126 rfl (lv_at hl 1 rfl) ?_
          refine va_get (D := (dC, dI)) (ci := 8) (v := .int v_20_0) (C := RX8) (T := TX8) (N := 49) hx hb hw zz_inX8 hown hK hP 3 rfl rfl 6 (by decide) (hw _ tw_270) (fun _ h9 => h9) rfl dX8_clause_127 ?_
          refine lv_if_ne (tgt := 138) hx hb dX8_clause_130 (by decide) (fun _ => ?_) (fun c_23 => absurd c_23 ne_20)
          obtain ⟨hP9, hD9⟩ := zz_sub2 (ws' := [(b 0, .inr (8, [.ref (b 1), .int (nI mt), .int (nI v_3_0), .int v_3_1, .int v_3_2, .int v_3_3, .int v_20_0, .int v_20_1, .int (gg 8), .int (gg 9), .ref (b 11), .ref (b 12), .ref (b 13), .int (nI mc), .int (nI mh), .ref (b 16), .ref (b 17), .ref (b 18), .ref (b 19), .ref (b 20), .ref (b 21), .ref (b 22), .ref (b 23), .ref (b 24), .int (nI mf), .ref (b 26), .ref (b 27), .ref (b 28), .ref (b 29), .ref (b 30), .ref (b 31), .ref (b 32), .int (gg 32), .int (nI md), .ref (b 35), .ref (b 36), .ref (b 37), .ref (b 38), .ref (b 39), .ref (b 40), .int (gg 40), .ref (b 42), .ref (b 43), .ref (b 44), .int (gg 44), .ref (b 46), .ref (b 47), .int (gg 47), .ref (b 49)])), (b 1, .inl (cB, 200, .inl ta)), (b 11, .inl (cZ, 7, .inl (upd ist (Int32.toNatClampNeg (nI qw)) (vp_nar .boolean 1)))), (b 12, .inl (cI, 7, .inl (upd nwc (Int32.toNatClampNeg (nI qw)) v_3_3)))]) hP hD [3, 2, 0, 1] (by decide) rfl
          have hK9 := hK.sub (tys' := [(cB, .byte), (cZ, .boolean), (cI, .int)]) [0, 1, 2] rfl
          exact W.vret hx hb hr (fun t ht hW => ⟨⟨(v_3_0, v_3_1, v_3_2, v_3_3, v_20_0, v_20_1, (upd ist (Int32.toNatClampNeg (nI qw)) (vp_nar .boolean 1)), (upd nwc (Int32.toNatClampNeg (nI qw)) v_3_3)), rfl, (Or.inl ⟨ne_20, ge_20.trans (by rw [(zz_F_ne td1 hn1 bd1 hR1 (Or.inr (Or.inl rfl)) c_4 (fun _ z => absurd (show (2 : Nat) = 1 from z) (by decide))).1]; rfl), he_20.trans (ek1.trans (zz_F_ne td1 hn1 bd1 hR1 (Or.inr (Or.inl rfl)) c_4 (fun _ z => absurd (show (2 : Nat) = 1 from z) (by decide))).2.symm), by omega, by omega⟩), by rw [ht]; exact hP9, va_K.moved hW.alike hK9, hD9⟩, hS.F ht⟩) hS.2.2 dX8_clause_138
        · have zc_22 := c_22
          rw [← Int32.toInt_inj] at zc_22
          try rw [show (3 : Int32).toInt = 3 from by decide] at zc_22
          refine lv_aload_n hx hb dX8_clause_118 rfl (lv_at hl 1 rfl) ?_
          refine lv_iconst (v := 1) hx hb dX8_clause_119 (by decide) ?_
          obtain ⟨hPc, hDc⟩ := zz_sub2 (ws' := [(b 0, .inr (8, [.ref (b 1), .int (nI mt), .int (nI v_3_0), .int v_3_1, .int v_3_2, .int v_3_3, .int v_20_0, .int v_20_1, .int (gg 8), .int (gg 9), .ref (b 11), .ref (b 12), .ref (b 13), .int (nI mc), .int (nI mh), .ref (b 16), .ref (b 17), .ref (b 18), .ref (b 19), .ref (b 20), .ref (b 21), .ref (b 22), .ref (b 23), .ref (b 24), .int (nI mf), .ref (b 26), .ref (b 27), .ref (b 28), .ref (b 29), .ref (b 30), .ref (b 31), .ref (b 32), .int (gg 32), .int (nI md), .ref (b 35), .ref (b 36), .ref (b 37), .ref (b 38), .ref (b 39), .ref (b 40), .int (gg 40), .ref (b 42), .ref (b 43), .ref (b 44), .int (gg 44), .ref (b 46), .ref (b 47), .int (gg 47), .ref (b 49)]))]) hP hD [3] (by decide) rfl
          have hKc := hK.sub (tys' := []) [] rfl
          have hFc := zz_free1 hDc hS hA
          refine va_callv (va_runV (As := [.int 1]) (rest := []) ⟨hx, hb, hml, hown, hw⟩ (mx_fails l dC dI b gg mt mc mh mf md v_3_0 v_3_1 v_3_2 v_3_3 v_20_0 v_20_1 1 H.size) ⟨callB_of 1 hw (zz_good tw_321) rfl rfl rfl (hw _ tw_184) (hw _ tw_322) (by decide +kernel) ⟨Nat.le_of_ble_eq_true rfl, Nat.le_of_ble_eq_true rfl⟩, (hw _ tw_323), (hw _ tw_324)⟩ ⟨zz_blind, va_recv hKc hPc (ci := 8) (q0 := 0) rfl rfl, zz_pre hPc hKc hDc hN⟩ rfl rfl hl.1 rfl (lv_room (Nat.le_of_ble_eq_true rfl)) dX8_clause_120 ⟨Nat.le_of_ble_eq_true rfl, Nat.le_of_ble_eq_true rfl⟩) hS (fun q _ h => hFc q h) hFc (fun u_24 t H1 locs ht hvm e_24 hB hz1 hk1 hS => ?_)
          try dsimp only at e_24
          obtain ⟨v_24_0, v_24_1⟩ := u_24
          obtain ⟨hP1, hK1, hD1⟩ := hB
          rw [ht] at hP1
          have hK1 := va_K.moved hvm.symm hK1
          try dsimp only at e_24
          obtain ⟨hP, hD⟩ := va_join (wr := [(b 11, .inl (cZ, 7, .inl (upd ist (Int32.toNatClampNeg (nI qw)) (vp_nar .boolean 1)))), (b 12, .inl (cI, 7, .inl (upd nwc (Int32.toNatClampNeg (nI qw)) v_3_3))), (b 1, .inl (cB, 200, .inl ta))]) (w1 := [(b 0, .inr (8, [.ref (b 1), .int (nI mt), .int (nI v_3_0), .int v_3_1, .int v_3_2, .int v_3_3, .int v_24_0, .int v_24_1, .int (gg 8), .int (gg 9), .ref (b 11), .ref (b 12), .ref (b 13), .int (nI mc), .int (nI mh), .ref (b 16), .ref (b 17), .ref (b 18), .ref (b 19), .ref (b 20), .ref (b 21), .ref (b 22), .ref (b 23), .ref (b 24), .int (nI mf), .ref (b 26), .ref (b 27), .ref (b 28), .ref (b 29), .ref (b 30), .ref (b 31), .ref (b 32), .int (gg 32), .int (nI md), .ref (b 35), .ref (b 36), .ref (b 37), .ref (b 38), .ref (b 39), .ref (b 40), .int (gg 40), .ref (b 42), .ref (b 43), .ref (b 44), .int (gg 44), .ref (b 46), .ref (b 47), .int (gg 47), .ref (b 49)]))]) hP hD [3] [0, 1, 2] rfl rfl (by decide) (by decide) hk1 hFc hP1 hD1
          clear hk1 ht hvm
          generalize H1 = H at hP hS ⊢
          obtain ⟨hP, hD⟩ := zz_ty (D := (dC, dI)) (cl := vwCl) (A := A) (H := H) [(b 11, .inl (cZ, 7, .inl (upd ist (Int32.toNatClampNeg (nI qw)) (vp_nar .boolean 1)))), (b 12, .inl (cI, 7, .inl (upd nwc (Int32.toNatClampNeg (nI qw)) v_3_3))), (b 1, .inl (cB, 200, .inl ta)), (b 0, .inr (8, [.ref (b 1), .int (nI mt), .int (nI v_3_0), .int v_3_1, .int v_3_2, .int v_3_3, .int v_24_0, .int v_24_1, .int (gg 8), .int (gg 9), .ref (b 11), .ref (b 12), .ref (b 13), .int (nI mc), .int (nI mh), .ref (b 16), .ref (b 17), .ref (b 18), .ref (b 19), .ref (b 20), .ref (b 21), .ref (b 22), .ref (b 23), .ref (b 24), .int (nI mf), .ref (b 26), .ref (b 27), .ref (b 28), .ref (b 29), .ref (b 30), .ref (b 31), .ref (b 32), .int (gg 32), .int (nI md), .ref (b 35), .ref (b 36), .ref (b 37), .ref (b 38), .ref (b 39), .ref (b 40), .int (gg 40), .ref (b 42), .ref (b 43), .ref (b 44), .int (gg 44), .ref (b 46), .ref (b 47), .int (gg 47), .ref (b 49)]))] hP hD rfl
          obtain ⟨ge_24, he_24⟩ := e_24.elim (fun h => absurd h.1 ne_20) (fun h => h.2)
          have ne_24 : ¬ v_24_0 = 0 := by rw [ge_24]; exact ne_20
          have ge_24 := ge_24.trans ge_20
          have he_24 := he_24.trans he_20
          refine lv_goto (tgt := 138) hx hb dX8_clause_123 (by decide) ?_
          obtain ⟨hP9, hD9⟩ := zz_sub2 (ws' := [(b 0, .inr (8, [.ref (b 1), .int (nI mt), .int (nI v_3_0), .int v_3_1, .int v_3_2, .int v_3_3, .int v_24_0, .int v_24_1, .int (gg 8), .int (gg 9), .ref (b 11), .ref (b 12), .ref (b 13), .int (nI mc), .int (nI mh), .ref (b 16), .ref (b 17), .ref (b 18), .ref (b 19), .ref (b 20), .ref (b 21), .ref (b 22), .ref (b 23), .ref (b 24), .int (nI mf), .ref (b 26), .ref (b 27), .ref (b 28), .ref (b 29), .ref (b 30), .ref (b 31), .ref (b 32), .int (gg 32), .int (nI md), .ref (b 35), .ref (b 36), .ref (b 37), .ref (b 38), .ref (b 39), .ref (b 40), .int (gg 40), .ref (b 42), .ref (b 43), .ref (b 44), .int (gg 44), .ref (b 46), .ref (b 47), .int (gg 47), .ref (b 49)])), (b 1, .inl (cB, 200, .inl ta)), (b 11, .inl (cZ, 7, .inl (upd ist (Int32.toNatClampNeg (nI qw)) (vp_nar .boolean 1)))), (b 12, .inl (cI, 7, .inl (upd nwc (Int32.toNatClampNeg (nI qw)) v_3_3)))]) hP hD [3, 2, 0, 1] (by decide) rfl
          have hK9 := hK.sub (tys' := [(cB, .byte), (cZ, .boolean), (cI, .int)]) [0, 1, 2] rfl
          exact W.vret hx hb hr (fun t ht hW => ⟨⟨(v_3_0, v_3_1, v_3_2, v_3_3, v_24_0, v_24_1, (upd ist (Int32.toNatClampNeg (nI qw)) (vp_nar .boolean 1)), (upd nwc (Int32.toNatClampNeg (nI qw)) v_3_3)), rfl, (Or.inl ⟨ne_24, ge_24.trans (by rw [(zz_F_ne td1 hn1 bd1 hR1 (Or.inr (Or.inl rfl)) c_4 (fun _ z => absurd (show (2 : Nat) = 1 from z) (by decide))).1]; rfl), he_24.trans (ek1.trans (zz_F_ne td1 hn1 bd1 hR1 (Or.inr (Or.inl rfl)) c_4 (fun _ z => absurd (show (2 : Nat) = 1 from z) (by decide))).2.symm), by omega, by omega⟩), by rw [ht]; exact hP9, va_K.moved hW.alike hK9, hD9⟩, hS.F ht⟩) hS.2.2 dX8_clause_138
    · have zc_2 := c_2
      rw [← Int32.toInt_inj] at zc_2
      try rw [show (0 : Int32).toInt = 0 from by decide] at zc_2
      refine lv_aload_n hx hb dX8_clause_28 rfl (lv_at hl 1 rfl) ?_
      refine lv_iconst (v := 2) hx hb dX8_clause_29 (by decide) ?_
      obtain ⟨hPc, hDc⟩ := zz_sub2 (ws' := [(b 0, .inr (8, [.ref (b 1), .int (nI mt), .int (nI ma), .int tk, .int so, .int tl, .int wr, .int wa, .int (gg 8), .int (gg 9), .ref (b 11), .ref (b 12), .ref (b 13), .int (nI mc), .int (nI mh), .ref (b 16), .ref (b 17), .ref (b 18), .ref (b 19), .ref (b 20), .ref (b 21), .ref (b 22), .ref (b 23), .ref (b 24), .int (nI mf), .ref (b 26), .ref (b 27), .ref (b 28), .ref (b 29), .ref (b 30), .ref (b 31), .ref (b 32), .int (gg 32), .int (nI md), .ref (b 35), .ref (b 36), .ref (b 37), .ref (b 38), .ref (b 39), .ref (b 40), .int (gg 40), .ref (b 42), .ref (b 43), .ref (b 44), .int (gg 44), .ref (b 46), .ref (b 47), .int (gg 47), .ref (b 49)]))]) hP hD [0] (by decide) rfl
      have hKc := hK.sub (tys' := []) [] rfl
      have hFc := zz_free1 hDc hS hA
      refine va_callv (va_runV (As := [.int 2]) (rest := []) ⟨hx, hb, hml, hown, hw⟩ (mx_fails l dC dI b gg mt mc mh mf md ma tk so tl wr wa 2 s.heap.size) ⟨callB_of 1 hw (zz_good tw_321) rfl rfl rfl (hw _ tw_184) (hw _ tw_322) (by decide +kernel) ⟨Nat.le_of_ble_eq_true rfl, Nat.le_of_ble_eq_true rfl⟩, (hw _ tw_323), (hw _ tw_324)⟩ ⟨zz_blind, va_recv hKc hPc (ci := 8) (q0 := 0) rfl rfl, zz_pre hPc hKc hDc hN⟩ rfl rfl hl.1 rfl (lv_room (Nat.le_of_ble_eq_true rfl)) dX8_clause_30 ⟨Nat.le_of_ble_eq_true rfl, Nat.le_of_ble_eq_true rfl⟩) hS (fun q _ h => hFc q h) hFc (fun u_25 t H1 locs ht hvm e_25 hB hz1 hk1 hS => ?_)
      try dsimp only at e_25
      obtain ⟨v_25_0, v_25_1⟩ := u_25
      obtain ⟨hP1, hK1, hD1⟩ := hB
      rw [ht] at hP1
      have hK1 := va_K.moved hvm.symm hK1
      try dsimp only at e_25
      obtain ⟨hP, hD⟩ := va_join (wr := [(b 1, .inl (cB, 200, .inl ta)), (b 11, .inl (cZ, 7, .inl ist)), (b 12, .inl (cI, 7, .inl nwc))]) (w1 := [(b 0, .inr (8, [.ref (b 1), .int (nI mt), .int (nI ma), .int tk, .int so, .int tl, .int v_25_0, .int v_25_1, .int (gg 8), .int (gg 9), .ref (b 11), .ref (b 12), .ref (b 13), .int (nI mc), .int (nI mh), .ref (b 16), .ref (b 17), .ref (b 18), .ref (b 19), .ref (b 20), .ref (b 21), .ref (b 22), .ref (b 23), .ref (b 24), .int (nI mf), .ref (b 26), .ref (b 27), .ref (b 28), .ref (b 29), .ref (b 30), .ref (b 31), .ref (b 32), .int (gg 32), .int (nI md), .ref (b 35), .ref (b 36), .ref (b 37), .ref (b 38), .ref (b 39), .ref (b 40), .int (gg 40), .ref (b 42), .ref (b 43), .ref (b 44), .int (gg 44), .ref (b 46), .ref (b 47), .int (gg 47), .ref (b 49)]))]) hP hD [0] [1, 2, 3] rfl rfl (by decide) (by decide) hk1 hFc hP1 hD1
      clear hk1 ht hvm
      generalize H1 = H at hP hS ⊢
      obtain ⟨hP, hD⟩ := zz_ty (D := (dC, dI)) (cl := vwCl) (A := A) (H := H) [(b 1, .inl (cB, 200, .inl ta)), (b 11, .inl (cZ, 7, .inl ist)), (b 12, .inl (cI, 7, .inl nwc)), (b 0, .inr (8, [.ref (b 1), .int (nI mt), .int (nI ma), .int tk, .int so, .int tl, .int v_25_0, .int v_25_1, .int (gg 8), .int (gg 9), .ref (b 11), .ref (b 12), .ref (b 13), .int (nI mc), .int (nI mh), .ref (b 16), .ref (b 17), .ref (b 18), .ref (b 19), .ref (b 20), .ref (b 21), .ref (b 22), .ref (b 23), .ref (b 24), .int (nI mf), .ref (b 26), .ref (b 27), .ref (b 28), .ref (b 29), .ref (b 30), .ref (b 31), .ref (b 32), .int (gg 32), .int (nI md), .ref (b 35), .ref (b 36), .ref (b 37), .ref (b 38), .ref (b 39), .ref (b 40), .int (gg 40), .ref (b 42), .ref (b 43), .ref (b 44), .int (gg 44), .ref (b 46), .ref (b 47), .int (gg 47), .ref (b 49)]))] hP hD rfl
      obtain ⟨ge_25, he_25⟩ := e_25.elim (fun h => h.2) (fun h => absurd hwr h.1)
      have ne_25 : ¬ v_25_0 = 0 := by rw [ge_25]; decide
      obtain ⟨hP9, hD9⟩ := zz_sub2 (ws' := [(b 0, .inr (8, [.ref (b 1), .int (nI mt), .int (nI ma), .int tk, .int so, .int tl, .int v_25_0, .int v_25_1, .int (gg 8), .int (gg 9), .ref (b 11), .ref (b 12), .ref (b 13), .int (nI mc), .int (nI mh), .ref (b 16), .ref (b 17), .ref (b 18), .ref (b 19), .ref (b 20), .ref (b 21), .ref (b 22), .ref (b 23), .ref (b 24), .int (nI mf), .ref (b 26), .ref (b 27), .ref (b 28), .ref (b 29), .ref (b 30), .ref (b 31), .ref (b 32), .int (gg 32), .int (nI md), .ref (b 35), .ref (b 36), .ref (b 37), .ref (b 38), .ref (b 39), .ref (b 40), .int (gg 40), .ref (b 42), .ref (b 43), .ref (b 44), .int (gg 44), .ref (b 46), .ref (b 47), .int (gg 47), .ref (b 49)])), (b 1, .inl (cB, 200, .inl ta)), (b 11, .inl (cZ, 7, .inl ist)), (b 12, .inl (cI, 7, .inl nwc))]) hP hD [3, 0, 1, 2] (by decide) rfl
      have hK9 := hK.sub (tys' := [(cB, .byte), (cZ, .boolean), (cI, .int)]) [0, 1, 2] rfl
      exact W.vret hx hb hr (fun t ht hW => ⟨⟨(ma, tk, so, tl, v_25_0, v_25_1, ist, nwc), rfl, (Or.inl ⟨ne_25, ge_25.trans (by rw [(zz_F_w2 htd htn hbd hF hq1 hs1 eqw hqw (Classical.byContradiction (fun h9 => c_2 ((hmr.1 qw hqw).mpr h9)))).1]; rfl), he_25.trans (htk.trans (zz_F_w2 htd htn hbd hF hq1 hs1 eqw hqw (Classical.byContradiction (fun h9 => c_2 ((hmr.1 qw hqw).mpr h9)))).2.symm), by omega, by omega⟩), by rw [ht]; exact hP9, va_K.moved hW.alike hK9, hD9⟩, hS.F ht⟩) hS.2.2 dX8_clause_33
  · have zc_1 := c_1
    rw [← Int32.toInt_inj] at zc_1
    try rw [show (1 : Int32).toInt = 1 from by decide] at zc_1
    refine lv_aload_n hx hb dX8_clause_8 rfl (lv_at hl 0 rfl) ?_
    refine lv_iconst (v := 1) hx hb dX8_clause_9 (by decide) ?_
    obtain ⟨hPc, hDc⟩ := zz_sub2 (ws' := [(b 0, .inr (8, [.ref (b 1), .int (nI mt), .int (nI ma), .int tk, .int so, .int tl, .int wr, .int wa, .int (gg 8), .int (gg 9), .ref (b 11), .ref (b 12), .ref (b 13), .int (nI mc), .int (nI mh), .ref (b 16), .ref (b 17), .ref (b 18), .ref (b 19), .ref (b 20), .ref (b 21), .ref (b 22), .ref (b 23), .ref (b 24), .int (nI mf), .ref (b 26), .ref (b 27), .ref (b 28), .ref (b 29), .ref (b 30), .ref (b 31), .ref (b 32), .int (gg 32), .int (nI md), .ref (b 35), .ref (b 36), .ref (b 37), .ref (b 38), .ref (b 39), .ref (b 40), .int (gg 40), .ref (b 42), .ref (b 43), .ref (b 44), .int (gg 44), .ref (b 46), .ref (b 47), .int (gg 47), .ref (b 49)]))]) hP hD [0] (by decide) rfl
    have hKc := hK.sub (tys' := []) [] rfl
    have hFc := zz_free1 hDc hS hA
    refine va_callv (va_runV (As := [.int 1]) (rest := []) ⟨hx, hb, hml, hown, hw⟩ (mx_fails l dC dI b gg mt mc mh mf md ma tk so tl wr wa 1 s.heap.size) ⟨callB_of 1 hw (zz_good tw_321) rfl rfl rfl (hw _ tw_184) (hw _ tw_322) (by decide +kernel) ⟨Nat.le_of_ble_eq_true rfl, Nat.le_of_ble_eq_true rfl⟩, (hw _ tw_323), (hw _ tw_324)⟩ ⟨zz_blind, va_recv hKc hPc (ci := 8) (q0 := 0) rfl rfl, zz_pre hPc hKc hDc hN⟩ rfl rfl hl.1 rfl (lv_room (Nat.le_of_ble_eq_true rfl)) dX8_clause_10 ⟨Nat.le_of_ble_eq_true rfl, Nat.le_of_ble_eq_true rfl⟩) hS (fun q _ h => hFc q h) hFc (fun u_26 t H1 locs ht hvm e_26 hB hz1 hk1 hS => ?_)
    try dsimp only at e_26
    obtain ⟨v_26_0, v_26_1⟩ := u_26
    obtain ⟨hP1, hK1, hD1⟩ := hB
    rw [ht] at hP1
    have hK1 := va_K.moved hvm.symm hK1
    try dsimp only at e_26
    obtain ⟨hP, hD⟩ := va_join (wr := [(b 1, .inl (cB, 200, .inl ta)), (b 11, .inl (cZ, 7, .inl ist)), (b 12, .inl (cI, 7, .inl nwc))]) (w1 := [(b 0, .inr (8, [.ref (b 1), .int (nI mt), .int (nI ma), .int tk, .int so, .int tl, .int v_26_0, .int v_26_1, .int (gg 8), .int (gg 9), .ref (b 11), .ref (b 12), .ref (b 13), .int (nI mc), .int (nI mh), .ref (b 16), .ref (b 17), .ref (b 18), .ref (b 19), .ref (b 20), .ref (b 21), .ref (b 22), .ref (b 23), .ref (b 24), .int (nI mf), .ref (b 26), .ref (b 27), .ref (b 28), .ref (b 29), .ref (b 30), .ref (b 31), .ref (b 32), .int (gg 32), .int (nI md), .ref (b 35), .ref (b 36), .ref (b 37), .ref (b 38), .ref (b 39), .ref (b 40), .int (gg 40), .ref (b 42), .ref (b 43), .ref (b 44), .int (gg 44), .ref (b 46), .ref (b 47), .int (gg 47), .ref (b 49)]))]) hP hD [0] [1, 2, 3] rfl rfl (by decide) (by decide) hk1 hFc hP1 hD1
    clear hk1 ht hvm
    generalize H1 = H at hP hS ⊢
    obtain ⟨hP, hD⟩ := zz_ty (D := (dC, dI)) (cl := vwCl) (A := A) (H := H) [(b 1, .inl (cB, 200, .inl ta)), (b 11, .inl (cZ, 7, .inl ist)), (b 12, .inl (cI, 7, .inl nwc)), (b 0, .inr (8, [.ref (b 1), .int (nI mt), .int (nI ma), .int tk, .int so, .int tl, .int v_26_0, .int v_26_1, .int (gg 8), .int (gg 9), .ref (b 11), .ref (b 12), .ref (b 13), .int (nI mc), .int (nI mh), .ref (b 16), .ref (b 17), .ref (b 18), .ref (b 19), .ref (b 20), .ref (b 21), .ref (b 22), .ref (b 23), .ref (b 24), .int (nI mf), .ref (b 26), .ref (b 27), .ref (b 28), .ref (b 29), .ref (b 30), .ref (b 31), .ref (b 32), .int (gg 32), .int (nI md), .ref (b 35), .ref (b 36), .ref (b 37), .ref (b 38), .ref (b 39), .ref (b 40), .int (gg 40), .ref (b 42), .ref (b 43), .ref (b 44), .int (gg 44), .ref (b 46), .ref (b 47), .int (gg 47), .ref (b 49)]))] hP hD rfl
    obtain ⟨ge_26, he_26⟩ := e_26.elim (fun h => h.2) (fun h => absurd hwr h.1)
    have ne_26 : ¬ v_26_0 = 0 := by rw [ge_26]; decide
    obtain ⟨hP9, hD9⟩ := zz_sub2 (ws' := [(b 0, .inr (8, [.ref (b 1), .int (nI mt), .int (nI ma), .int tk, .int so, .int tl, .int v_26_0, .int v_26_1, .int (gg 8), .int (gg 9), .ref (b 11), .ref (b 12), .ref (b 13), .int (nI mc), .int (nI mh), .ref (b 16), .ref (b 17), .ref (b 18), .ref (b 19), .ref (b 20), .ref (b 21), .ref (b 22), .ref (b 23), .ref (b 24), .int (nI mf), .ref (b 26), .ref (b 27), .ref (b 28), .ref (b 29), .ref (b 30), .ref (b 31), .ref (b 32), .int (gg 32), .int (nI md), .ref (b 35), .ref (b 36), .ref (b 37), .ref (b 38), .ref (b 39), .ref (b 40), .int (gg 40), .ref (b 42), .ref (b 43), .ref (b 44), .int (gg 44), .ref (b 46), .ref (b 47), .int (gg 47), .ref (b 49)])), (b 1, .inl (cB, 200, .inl ta)), (b 11, .inl (cZ, 7, .inl ist)), (b 12, .inl (cI, 7, .inl nwc))]) hP hD [3, 0, 1, 2] (by decide) rfl
    have hK9 := hK.sub (tys' := [(cB, .byte), (cZ, .boolean), (cI, .int)]) [0, 1, 2] rfl
    exact W.vret hx hb hr (fun t ht hW => ⟨⟨(ma, tk, so, tl, v_26_0, v_26_1, ist, nwc), rfl, (Or.inl ⟨ne_26, ge_26.trans (by rw [(zz_F_ne htd htn hbd hF (Or.inl hq1) (fun z => c_1 (by rw [z, hq1]; rfl)) (fun z => absurd z (by omega))).1]; rfl), he_26.trans (htk.trans (zz_F_ne htd htn hbd hF (Or.inl hq1) (fun z => c_1 (by rw [z, hq1]; rfl)) (fun z => absurd z (by omega))).2.symm), by omega, by omega⟩), by rw [ht]; exact hP9, va_K.moved hW.alike hK9, hD9⟩, hS.F ht⟩) hS.2.2 dX8_clause_13
