theorem dL_law_18 : decode cL_law 18 = .ok (.iload_n 3, 1) := by decide +kernel
theorem dL_law_19 : decode cL_law 19 = .ok (.aload_n 0, 1) := by decide +kernel
theorem dL_law_20 : decode cL_law 20 = .ok (.arraylength, 1) := by decide +kernel
theorem dL_law_21 : decode cL_law 21 = .ok (.bipush 6, 2) := by decide +kernel
theorem dL_law_23 : decode cL_law 23 = .ok (.isub, 1) := by decide +kernel
theorem dL_law_24 : decode cL_law 24 = .ok (.if_icmp .gt 800, 3) := by decide +kernel
theorem dL_law_818 : decode cL_law 818 = .ok (.iinc 3 6, 3) := by decide +kernel
theorem dL_law_821 : decode cL_law 821 = .ok (.goto (-803), 3) := by decide +kernel
theorem dL_law_824 : decode cL_law 824 = .ok (.iconst 1, 1) := by decide +kernel
theorem dL_law_825 : decode cL_law 825 = .ok (.ireturn, 1) := by decide +kernel
/-! THE CLAIM OUT OF ONE WALK OF THE LAW'S BODY. Your part is whole_start (and what it stands on); all else here is the same for every law, but numbers. -/
def R_law : String := "HandsReturnedLaw"
def lw_P (b : Addr) (xs : List Int32) (args : Array Value) (s : State) : Prop := args = #[.ref b] ∧ s.IntsAt b xs ∧ xs.length ≤ 6 ∧ (Jvm.Cond.and given_1 narrow_1).before args s = true
def lw_Q (_ : Array Value) (s : State) (o : Outcome) (t : State) : Prop := o = .returned (some (.int 1)) ∧ Framed s o t [] 600000 7302250
def lw_Z (below : List Frame) (a : Array Value) (s : State) : State → Prop := fun t => ∃ o, t.status = .running ∧ Ended t below o ∧ lw_Q a s o t
/-- the law's own end, with 1 on the stack, nothing written that was there before, its room as the claim has it -/
theorem lw_ret {p : Program} {l : Launch} {e : Env} {s : State} {m : MethodId} {below : List Frame} {meth : Method} {c : Code} {b : Nat} (hx : p.tables.exec = Jvm.exec) (hb : c.code = code) (hr : meth.sig.returnType = ret) (hlocks : meth.locks = false) {pc : Nat} {H : Heap} {ls : Array Slot} (hdg : decode code pc = .ok (.ireturn, 1)) : W p l e room_1 s m #[Value.ref b] below meth c H [] 600000 7302250 (lw_Z below #[Value.ref b] s) (F0 m pc ls [.int 1]) := by
  intro T hT X
  obtain ⟨fs, hret, hrun, hended, hW, hframe⟩ := X.leave (v := some (.int 1)) (hlocks := hlocks) (fun h => by rw [hr] at h; cases h)
  have hmeth' : T.vm.method? m = some meth := X.method'
  refine ⟨T.setFrames fs, ?_, .returned (some (.int 1)), hrun, hended, rfl, ⟨_, rfl⟩, hW, hframe⟩
  jvm_step X.here [X.here.top, hx, hb, hdg, hmeth', hr, ret, narrow_b1]
  (try refine ⟨rfl, ?_⟩); (try refine ⟨rfl, ?_⟩)
  first | (intro acts; rw [hret _ acts rfl rfl rfl]) | rw [hret _ _ rfl rfl rfl]
  exact Steps.refl _
/-- what holds at the law's entry: the machine, the code, the tables' words (any of lw_tbl by 'hts w (by decide +kernel)'), the script of L ints xs at the cell b, what the Statement gives of the start (any of its parts by flat_of_before) -/
def lw_At (p : Program) (s : State) (m : MethodId) (meth : Method) (c : Code) (b L : Nat) (xs : Nat → Int32) : Prop :=
  p.tables.exec = Jvm.exec ∧ c.code = code ∧ meth.sig.returnType = ret ∧ c.maxLocals = 4 ∧ s.vm.findClass R_law = some m.cls ∧ (∀ w ∈ lw_tbl, w.before #[Value.ref b] s = true) ∧ va_X b L xs s s.heap ∧ b < s.heap.size ∧ meth.locks = false ∧ (Jvm.Cond.and given_1 narrow_1).before #[Value.ref b] s = true


theorem zz_ints {args : Array Value} {s : State} {tm : Term} {N : Nat} {f : Nat → Int32} (hN : N < 2 ^ 31) (harr : (Cond.arrayOf tm .int).before args s = true) (hlen : (Term.length tm).eval args s none [] s = some (.int (Int32.ofNat N))) (hel : ∀ j : Nat, j < N → (Term.elem tm (.int (Int32.ofNat j))).eval args s none [] s = some (.int (f j))) : ∃ t : Nat, tm.eval args s none [] s = some (.ref t) ∧ va_X t N f s s.heap ∧ t < s.heap.size := by
  obtain ⟨t, cell, ht, hat, hv⟩ := Term.length_spec hlen
  have hsz : cell.slots.size < 2 ^ 31 := by
    have hv2 := hlen
    simp only [Term.eval, ht, hat, Option.bind_eq_bind, Option.bind_some] at hv2
    by_cases hlt : cell.slots.size < 2147483648
    · exact hlt
    · simp [hlt] at hv2
  obtain ⟨hcell, hkn, -, -⟩ := State.arrayAt?_spec hat
  obtain ⟨hof, -⟩ := Cond.arrayOf_spec harr ht hcell
  have key : ∀ j : Nat, j < N → cell.slots[j]? = some (.int (f j)) := by
    intro j hj
    obtain ⟨a, i, cell2, h1, h2, h3, h4, h5⟩ := Term.elem_spec (hel j hj)
    cases ht.symm.trans h1
    cases hat.symm.trans h3
    have hi : i = Int32.ofNat j := by
      have e : (Term.int (Int32.ofNat j)).eval args s none [] s = some (.int (Int32.ofNat j)) := rfl
      cases h2.symm.trans e
      rfl
    have hc : i.toNatClampNeg = j := by rw [hi]; exact Int32.toNatClampNeg_ofNat_of_lt (Nat.lt_trans hj hN)
    rw [hc] at h5
    exact h5
  have hlen2 : cell.slots.size = N := by
    have e : nI cell.slots.size = nI N := (Value.int.inj hv).symm
    exact (nI_eq hsz hN).mp e
  exact ⟨t, ht, ⟨cell, hcell, hof, hkn, hlen2, key⟩, (Array.getElem?_eq_some_iff.mp hcell).1⟩
set_option maxRecDepth 100000 in
theorem zz_untold {s : State} {sb : Nat} (hts : ∀ w ∈ lw_tbl, w.before #[Value.ref sb] s = true) (hgv : (Jvm.Cond.and given_1 narrow_1).before #[Value.ref sb] s = true) : ∃ b0 : Nat, zz_Un b0 (fun q : Nat => s.heap.size ≤ q) s := by
  have hs := flat_of_before _ hgv
  have h1 : (Cond.arrayOf (.static "HandsReturned" "UNTOLD" "[I") .int).before #[Value.ref sb] s = true := hs _ (by decide +kernel)
  have h2 : (Cond.eq (.length (.static "HandsReturned" "UNTOLD" "[I")) (.int 7)).before #[Value.ref sb] s = true := hs _ (by decide +kernel)
  have e0 : (Cond.eq (.elem (.static "HandsReturned" "UNTOLD" "[I") (.int 0)) (.int 1)).before #[Value.ref sb] s = true := hs _ (by decide +kernel)
  have e1 : (Cond.eq (.elem (.static "HandsReturned" "UNTOLD" "[I") (.int 1)) (.int 1)).before #[Value.ref sb] s = true := hs _ (by decide +kernel)
  have e2 : (Cond.eq (.elem (.static "HandsReturned" "UNTOLD" "[I") (.int 2)) (.int 1)).before #[Value.ref sb] s = true := hs _ (by decide +kernel)
  have e3 : (Cond.eq (.elem (.static "HandsReturned" "UNTOLD" "[I") (.int 3)) (.int 400)).before #[Value.ref sb] s = true := hs _ (by decide +kernel)
  have e4 : (Cond.eq (.elem (.static "HandsReturned" "UNTOLD" "[I") (.int 4)) (.int 0)).before #[Value.ref sb] s = true := hs _ (by decide +kernel)
  have e5 : (Cond.eq (.elem (.static "HandsReturned" "UNTOLD" "[I") (.int 5)) (.int 0)).before #[Value.ref sb] s = true := hs _ (by decide +kernel)
  have e6 : (Cond.eq (.elem (.static "HandsReturned" "UNTOLD" "[I") (.int 6)) (.int 0)).before #[Value.ref sb] s = true := hs _ (by decide +kernel)
  obtain ⟨t, ht, hX, hlt⟩ := zz_ints (tm := .static "HandsReturned" "UNTOLD" "[I") (N := 7) (f := zz_un) (by decide) h1 (va_eqt h2) (fun j hj => by
    rcases (show j = 0 ∨ j = 1 ∨ j = 2 ∨ j = 3 ∨ j = 4 ∨ j = 5 ∨ j = 6 by omega) with rfl | rfl | rfl | rfl | rfl | rfl | rfl
    · exact va_eqt e0
    · exact va_eqt e1
    · exact va_eqt e2
    · exact va_eqt e3
    · exact va_eqt e4
    · exact va_eqt e5
    · exact va_eqt e6)
  exact ⟨t, va_Zref (hts _ (zz_t1 121 rfl)) (hts _ (zz_in_tbl tw_2)) ht (fun a h => Nat.not_le.mpr h), hX, hlt, Nat.not_le.mpr hlt⟩
theorem zz_L {L : Nat} (h : L ≤ 6) (h2 : ¬ Int32.ofNat L - 6 < 0) : L = 6 := by
  rcases (show L = 0 ∨ L = 1 ∨ L = 2 ∨ L = 3 ∨ L = 4 ∨ L = 5 ∨ L = 6 by omega) with rfl | rfl | rfl | rfl | rfl | rfl | rfl
  · exact absurd (by decide) h2
  · exact absurd (by decide) h2
  · exact absurd (by decide) h2
  · exact absurd (by decide) h2
  · exact absurd (by decide) h2
  · exact absurd (by decide) h2
  · rfl


set_option maxHeartbeats 4000000 in
theorem law_end {p : Program} {e : Env} {s : State} {m : MethodId} {below : List Frame} {meth : Method} {c : Code} (l : Launch) {sb L : Nat} {xs : Nat → Int32} (hL6 : L = 6) (C0 : lw_At p s m meth c sb L xs) {H : Heap} {locs : List Loc} {ls : Array Slot} (hS : va_S (fun q : Nat => s.heap.size ≤ q) s.heap H locs) (hl : lv_has ls 4 [(3, .int 0), (0, .ref sb)]) {cells slots : Nat} (hc : cells ≤ 600000) (hs : slots ≤ 7302250) : W p l e room_1 s m #[Value.ref sb] below meth c H locs cells slots (lw_Z below #[Value.ref sb] s) (F0 m 818 ls []) := by
  obtain ⟨hx, hb, hr, hml, hown, hts, hX, hbl, hlocks, hgv⟩ := id C0
  have hw : ∀ w ∈ zz_all, w.before #[Value.ref sb] s = true := fun w h => hts w (zz_in_tbl h)
  have hown : s.vm.findClass RL = some m.cls := hown
  have hA : ∀ q : Nat, s.heap.size ≤ q → (fun q : Nat => s.heap.size ≤ q) q := fun _ h => h
  have hbA : ¬ (fun q : Nat => s.heap.size ≤ q) sb := Nat.not_le.mpr hbl
  refine lv_iinc (v := 6) (lv' := [(3, .int 6), (0, .ref sb)]) hx hb dL_law_818 hl (k := 0) rfl (by decide) (by decide) rfl (fun ls hl => ?_)
  refine lv_goto (tgt := 18) hx hb dL_law_821 (by decide) ?_
  refine lv_iload_n hx hb dL_law_18 rfl (lv_at hl 0 rfl) ?_
  refine lv_aload_n hx hb dL_law_19 rfl (lv_at hl 1 rfl) ?_
  refine va_slen hx hb hX hbl hbA hS dL_law_20 ?_
  refine lv_bipush (v := 6) hx hb dL_law_21 (by decide) ?_
  refine lv_isub hx hb dL_law_23 ?_
  refine lv_icmp_gt (tgt := 824) hx hb dL_law_24 (by decide) (fun _ => ?_) (fun c_1 => absurd c_1 (fun z9 => z9 (by rw [hL6]; decide)))
  refine lv_iconst (v := 1) hx hb dL_law_824 (by decide) ?_
  refine va_forget (fun q hq => hS.2.2 q hq) ?_
  refine W.widen (k := 600000) (n := 7302250) hc hs ?_
  exact lw_ret hx hb hr hlocks dL_law_825

