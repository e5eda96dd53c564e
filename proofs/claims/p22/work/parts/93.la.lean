/-! THE CLAIM OUT OF ONE WALK OF THE LAW'S BODY. Your part is whole_start (and what it stands on); all else here is the same for every law, but numbers. -/
def R_law : String := "HandsReturnedLaw"
def lw_P (b : Addr) (xs : List Int32) (args : Array Value) (s : State) : Prop := args = #[.ref b] ∧ s.IntsAt b xs ∧ xs.length ≤ 3072 ∧ (Jvm.Cond.and given_1 narrow_1).before args s = true
def lw_Q (_ : Array Value) (s : State) (o : Outcome) (t : State) : Prop := o = .returned (some (.int 1)) ∧ Framed s o t [] 600000 7302250
def lw_Z (below : List Frame) (a : Array Value) (s : State) : State → Prop := fun t => ∃ o, t.status = .running ∧ Ended t below o ∧ lw_Q a s o t
/-- the law's own end, with 1 on the stack, nothing written that was there before, its room as the claim has it -/
theorem lw_ret {p : Program} {l : Launch} {e : Env} {s : State} {m : MethodId} {below : List Frame} {meth : Method} {c : Code} {b : Nat} (hx : p.tables.exec = Jvm.exec) (hb : c.code = code) (hr : meth.sig.returnType = ret) (hlocks : meth.locks = false) {pc : Nat} {H : Heap} {ls : Array Slot} (hdg : decode code pc = .ok (.ireturn, 1)) : W p l e room_1 s m #[Value.ref b] below meth c H [] 600000 7302250 (lw_Z below #[Value.ref b] s) (F0 m pc ls [.int 1]) := by
  intro T hT X
  obtain ⟨fs, hret, hrun, hended, hW, hframe⟩ := X.leave (v := some (.int 1)) (hlocks := hlocks) (fun h => by rw [hr] at h; cases h)
  have hmeth' : T.vm.method? m = some meth := X.method'
  refine ⟨T.setFrames fs, ?_, .returned (some (.int 1)), hrun, hended, rfl, ⟨_, rfl⟩, hW, hframe⟩
  jvm_step X.here [X.here.top, hx, hb, hdg, hmeth', hr, ret, narrow_b1]
  (try refine ⟨rfl, ?_⟩); (try refine ⟨rfl, ?_⟩)
  first | (intro acts; rw [hret _ acts rfl rfl rfl]) | rw [hret _ _ rfl rfl rfl]
  exact Steps.refl _
/-- what holds at the law's entry: the machine, the code, the tables' words (any of lw_tbl by 'hts w (by decide +kernel)'), the script of L ints xs at the cell b, what the Statement gives of the start (any of its parts by flat_of_before) -/
def lw_At (p : Program) (s : State) (m : MethodId) (meth : Method) (c : Code) (b L : Nat) (xs : Nat → Int32) : Prop :=
  p.tables.exec = Jvm.exec ∧ c.code = code ∧ meth.sig.returnType = ret ∧ c.maxLocals = 4 ∧ s.vm.findClass R_law = some m.cls ∧ (∀ w ∈ lw_tbl, w.before #[Value.ref b] s = true) ∧ va_X b L xs s s.heap ∧ b < s.heap.size ∧ meth.locks = false ∧ (Jvm.Cond.and given_1 narrow_1).before #[Value.ref b] s = true
theorem zz_ints {args : Array Value} {s : State} {tm : Term} {N : Nat} {f : Nat → Int32} (hN : N < 2 ^ 31) (harr : (Cond.arrayOf tm .int).before args s = true) (hlen : (Term.length tm).eval args s none [] s = some (.int (Int32.ofNat N))) (hel : ∀ j : Nat, j < N → (Term.elem tm (.int (Int32.ofNat j))).eval args s none [] s = some (.int (f j))) : ∃ t : Nat, tm.eval args s none [] s = some (.ref t) ∧ va_X t N f s s.heap ∧ t < s.heap.size := by
  obtain ⟨t, cell, ht, hat, hv⟩ := Term.length_spec hlen
  have hsz : cell.slots.size < 2 ^ 31 := by
    have hv2 := hlen
    simp only [Term.eval, ht, hat, Option.bind_eq_bind, Option.bind_some] at hv2
    by_cases hlt : cell.slots.size < 2147483648
    · exact hlt
    · simp [hlt] at hv2
  obtain ⟨hcell, hkn, -, -⟩ := State.arrayAt?_spec hat
  obtain ⟨hof, -⟩ := Cond.arrayOf_spec harr ht hcell
  have key : ∀ j : Nat, j < N → cell.slots[j]? = some (.int (f j)) := by
    intro j hj
    obtain ⟨a, i, cell2, h1, h2, h3, h4, h5⟩ := Term.elem_spec (hel j hj)
    cases ht.symm.trans h1
    cases hat.symm.trans h3
    have hi : i = Int32.ofNat j := by
      have e : (Term.int (Int32.ofNat j)).eval args s none [] s = some (.int (Int32.ofNat j)) := rfl
      cases h2.symm.trans e
      rfl
    have hc : i.toNatClampNeg = j := by rw [hi]; exact Int32.toNatClampNeg_ofNat_of_lt (Nat.lt_trans hj hN)
    rw [hc] at h5
    exact h5
  have hlen2 : cell.slots.size = N := by
    have e : nI cell.slots.size = nI N := (Value.int.inj hv).symm
    exact (nI_eq hsz hN).mp e
  exact ⟨t, ht, ⟨cell, hcell, hof, hkn, hlen2, key⟩, (Array.getElem?_eq_some_iff.mp hcell).1⟩
set_option maxRecDepth 100000 in
theorem zz_untold {s : State} {sb : Nat} (hts : ∀ w ∈ lw_tbl, w.before #[Value.ref sb] s = true) (hgv : (Jvm.Cond.and given_1 narrow_1).before #[Value.ref sb] s = true) : ∃ b0 : Nat, zz_Un b0 (fun q : Nat => s.heap.size ≤ q) s := by
  have hs := flat_of_before _ hgv
  have h1 : (Cond.arrayOf (.static "HandsReturned" "UNTOLD" "[I") .int).before #[Value.ref sb] s = true := hs _ (by decide +kernel)
  have h2 : (Cond.eq (.length (.static "HandsReturned" "UNTOLD" "[I")) (.int 7)).before #[Value.ref sb] s = true := hs _ (by decide +kernel)
  have e0 : (Cond.eq (.elem (.static "HandsReturned" "UNTOLD" "[I") (.int 0)) (.int 1)).before #[Value.ref sb] s = true := hs _ (by decide +kernel)
  have e1 : (Cond.eq (.elem (.static "HandsReturned" "UNTOLD" "[I") (.int 1)) (.int 1)).before #[Value.ref sb] s = true := hs _ (by decide +kernel)
  have e2 : (Cond.eq (.elem (.static "HandsReturned" "UNTOLD" "[I") (.int 2)) (.int 1)).before #[Value.ref sb] s = true := hs _ (by decide +kernel)
  have e3 : (Cond.eq (.elem (.static "HandsReturned" "UNTOLD" "[I") (.int 3)) (.int 400)).before #[Value.ref sb] s = true := hs _ (by decide +kernel)
  have e4 : (Cond.eq (.elem (.static "HandsReturned" "UNTOLD" "[I") (.int 4)) (.int 0)).before #[Value.ref sb] s = true := hs _ (by decide +kernel)
  have e5 : (Cond.eq (.elem (.static "HandsReturned" "UNTOLD" "[I") (.int 5)) (.int 0)).before #[Value.ref sb] s = true := hs _ (by decide +kernel)
  have e6 : (Cond.eq (.elem (.static "HandsReturned" "UNTOLD" "[I") (.int 6)) (.int 0)).before #[Value.ref sb] s = true := hs _ (by decide +kernel)
  obtain ⟨t, ht, hX, hlt⟩ := zz_ints (tm := .static "HandsReturned" "UNTOLD" "[I") (N := 7) (f := zz_un) (by decide) h1 (va_eqt h2) (fun j hj => by
    rcases (show j = 0 ∨ j = 1 ∨ j = 2 ∨ j = 3 ∨ j = 4 ∨ j = 5 ∨ j = 6 by omega) with rfl | rfl | rfl | rfl | rfl | rfl | rfl
    · exact va_eqt e0
    · exact va_eqt e1
    · exact va_eqt e2
    · exact va_eqt e3
    · exact va_eqt e4
    · exact va_eqt e5
    · exact va_eqt e6)
  exact ⟨t, va_Zref (hts _ (zz_t1 121 rfl)) (hts _ (zz_in_tbl tw_2)) ht (fun a h => Nat.not_le.mpr h), hX, hlt, Nat.not_le.mpr hlt⟩
set_option maxRecDepth 100000 in
theorem zz_st_LEAST_TOLD {s : State} {sb : Nat} (hts : ∀ w ∈ lw_tbl, w.before #[Value.ref sb] s = true) (hgv : (Jvm.Cond.and given_1 narrow_1).before #[Value.ref sb] s = true) : ∃ t : Nat, va_Z RX7 "LEAST_TOLD" "[I" (.ref t) (fun q : Nat => s.heap.size ≤ q) s s.heap ∧ va_T .int t 7 (fun j => .int (zz_lo7 j)) (fun q : Nat => s.heap.size ≤ q) s s.heap := by
  have hs := flat_of_before _ hgv
  have h1 : (Cond.arrayOf (.static "HandsReturned" "LEAST_TOLD" "[I") .int).before #[Value.ref sb] s = true := hs _ (by decide +kernel)
  have h2 : (Cond.eq (.length (.static "HandsReturned" "LEAST_TOLD" "[I")) (.int 7)).before #[Value.ref sb] s = true := hs _ (by decide +kernel)
  have e0 : (Cond.eq (.elem (.static "HandsReturned" "LEAST_TOLD" "[I") (.int 0)) (.int 0)).before #[Value.ref sb] s = true := hs _ (by decide +kernel)
  have e1 : (Cond.eq (.elem (.static "HandsReturned" "LEAST_TOLD" "[I") (.int 1)) (.int 0)).before #[Value.ref sb] s = true := hs _ (by decide +kernel)
  have e2 : (Cond.eq (.elem (.static "HandsReturned" "LEAST_TOLD" "[I") (.int 2)) (.int 0)).before #[Value.ref sb] s = true := hs _ (by decide +kernel)
  have e3 : (Cond.eq (.elem (.static "HandsReturned" "LEAST_TOLD" "[I") (.int 3)) (.int 1)).before #[Value.ref sb] s = true := hs _ (by decide +kernel)
  have e4 : (Cond.eq (.elem (.static "HandsReturned" "LEAST_TOLD" "[I") (.int 4)) (.int 0)).before #[Value.ref sb] s = true := hs _ (by decide +kernel)
  have e5 : (Cond.eq (.elem (.static "HandsReturned" "LEAST_TOLD" "[I") (.int 5)) (.int 0)).before #[Value.ref sb] s = true := hs _ (by decide +kernel)
  have e6 : (Cond.eq (.elem (.static "HandsReturned" "LEAST_TOLD" "[I") (.int 6)) (.int 0)).before #[Value.ref sb] s = true := hs _ (by decide +kernel)
  obtain ⟨t, ht, hT⟩ := va_Tof (tm := .static "HandsReturned" "LEAST_TOLD" "[I") (ty := .int) (N := 7) (f := fun j => .int (zz_lo7 j)) (A := (fun q : Nat => s.heap.size ≤ q)) (by decide) h1 (va_eqt h2) (fun j hj => by
    rcases (show j = 0 ∨ j = 1 ∨ j = 2 ∨ j = 3 ∨ j = 4 ∨ j = 5 ∨ j = 6 by omega) with rfl | rfl | rfl | rfl | rfl | rfl | rfl
    · exact va_eqt e0
    · exact va_eqt e1
    · exact va_eqt e2
    · exact va_eqt e3
    · exact va_eqt e4
    · exact va_eqt e5
    · exact va_eqt e6) (fun a h => Nat.not_le.mpr h)
  exact ⟨t, va_Zref (hts _ (zz_t2 196 rfl)) (hts _ (zz_in_tbl tw_2)) ht (fun a h => Nat.not_le.mpr h), hT⟩
set_option maxRecDepth 100000 in
theorem zz_st_MOST_TOLD {s : State} {sb : Nat} (hts : ∀ w ∈ lw_tbl, w.before #[Value.ref sb] s = true) (hgv : (Jvm.Cond.and given_1 narrow_1).before #[Value.ref sb] s = true) : ∃ t : Nat, va_Z RX7 "MOST_TOLD" "[I" (.ref t) (fun q : Nat => s.heap.size ≤ q) s s.heap ∧ va_T .int t 7 (fun j => .int (zz_hi7 j)) (fun q : Nat => s.heap.size ≤ q) s s.heap := by
  have hs := flat_of_before _ hgv
  have h1 : (Cond.arrayOf (.static "HandsReturned" "MOST_TOLD" "[I") .int).before #[Value.ref sb] s = true := hs _ (by decide +kernel)
  have h2 : (Cond.eq (.length (.static "HandsReturned" "MOST_TOLD" "[I")) (.int 7)).before #[Value.ref sb] s = true := hs _ (by decide +kernel)
  have e0 : (Cond.eq (.elem (.static "HandsReturned" "MOST_TOLD" "[I") (.int 0)) (.int 99)).before #[Value.ref sb] s = true := hs _ (by decide +kernel)
  have e1 : (Cond.eq (.elem (.static "HandsReturned" "MOST_TOLD" "[I") (.int 1)) (.int 99)).before #[Value.ref sb] s = true := hs _ (by decide +kernel)
  have e2 : (Cond.eq (.elem (.static "HandsReturned" "MOST_TOLD" "[I") (.int 2)) (.int 99)).before #[Value.ref sb] s = true := hs _ (by decide +kernel)
  have e3 : (Cond.eq (.elem (.static "HandsReturned" "MOST_TOLD" "[I") (.int 3)) (.int 400)).before #[Value.ref sb] s = true := hs _ (by decide +kernel)
  have e4 : (Cond.eq (.elem (.static "HandsReturned" "MOST_TOLD" "[I") (.int 4)) (.int 400)).before #[Value.ref sb] s = true := hs _ (by decide +kernel)
  have e5 : (Cond.eq (.elem (.static "HandsReturned" "MOST_TOLD" "[I") (.int 5)) (.int 99)).before #[Value.ref sb] s = true := hs _ (by decide +kernel)
  have e6 : (Cond.eq (.elem (.static "HandsReturned" "MOST_TOLD" "[I") (.int 6)) (.int 999)).before #[Value.ref sb] s = true := hs _ (by decide +kernel)
  obtain ⟨t, ht, hT⟩ := va_Tof (tm := .static "HandsReturned" "MOST_TOLD" "[I") (ty := .int) (N := 7) (f := fun j => .int (zz_hi7 j)) (A := (fun q : Nat => s.heap.size ≤ q)) (by decide) h1 (va_eqt h2) (fun j hj => by
    rcases (show j = 0 ∨ j = 1 ∨ j = 2 ∨ j = 3 ∨ j = 4 ∨ j = 5 ∨ j = 6 by omega) with rfl | rfl | rfl | rfl | rfl | rfl | rfl
    · exact va_eqt e0
    · exact va_eqt e1
    · exact va_eqt e2
    · exact va_eqt e3
    · exact va_eqt e4
    · exact va_eqt e5
    · exact va_eqt e6) (fun a h => Nat.not_le.mpr h)
  exact ⟨t, va_Zref (hts _ (zz_t2 198 rfl)) (hts _ (zz_in_tbl tw_2)) ht (fun a h => Nat.not_le.mpr h), hT⟩
set_option maxRecDepth 100000 in
theorem zz_strs {s : State} {sb : Nat} (hts : ∀ w ∈ lw_tbl, w.before #[Value.ref sb] s = true) (hgv : (Jvm.Cond.and given_1 narrow_1).before #[Value.ref sb] s = true) : ∃ adK adV : Nat → Nat, vk_S 7 zz_len7 zz_byt7 adK adV (fun q : Nat => s.heap.size ≤ q) s s.heap ∧ ∀ i : Nat, i < 7 → vk_R RX0 (100 + 2 * i) (zz_tx7.getD i "") (adK i) s := by
  have hs := flat_of_before _ hgv
  have x0 : (Cond.exactly (.string "HandsReturned$Custom" 100) "java/lang/String").before #[Value.ref sb] s = true := hs _ (by decide +kernel)
  have c0 : (Cond.eq (.field (.string "HandsReturned$Custom" 100) "java/lang/String" "coder" "B") (.int 0)).before #[Value.ref sb] s = true := hs _ (by decide +kernel)
  have r0 : (Cond.arrayOf (.field (.string "HandsReturned$Custom" 100) "java/lang/String" "value" "[B") .byte).before #[Value.ref sb] s = true := hs _ (by decide +kernel)
  have l0 : (Cond.eq (.length (.field (.string "HandsReturned$Custom" 100) "java/lang/String" "value" "[B")) (.int 5)).before #[Value.ref sb] s = true := hs _ (by decide +kernel)
  have v0_0 : (Cond.eq (.elem (.field (.string "HandsReturned$Custom" 100) "java/lang/String" "value" "[B") (.int 0)) (.int 112)).before #[Value.ref sb] s = true := hs _ (by decide +kernel)
  have v0_1 : (Cond.eq (.elem (.field (.string "HandsReturned$Custom" 100) "java/lang/String" "value" "[B") (.int 1)) (.int 108)).before #[Value.ref sb] s = true := hs _ (by decide +kernel)
  have v0_2 : (Cond.eq (.elem (.field (.string "HandsReturned$Custom" 100) "java/lang/String" "value" "[B") (.int 2)) (.int 97)).before #[Value.ref sb] s = true := hs _ (by decide +kernel)
  have v0_3 : (Cond.eq (.elem (.field (.string "HandsReturned$Custom" 100) "java/lang/String" "value" "[B") (.int 3)) (.int 110)).before #[Value.ref sb] s = true := hs _ (by decide +kernel)
  have v0_4 : (Cond.eq (.elem (.field (.string "HandsReturned$Custom" 100) "java/lang/String" "value" "[B") (.int 4)) (.int 116)).before #[Value.ref sb] s = true := hs _ (by decide +kernel)
  have x1 : (Cond.exactly (.string "HandsReturned$Custom" 102) "java/lang/String").before #[Value.ref sb] s = true := hs _ (by decide +kernel)
  have c1 : (Cond.eq (.field (.string "HandsReturned$Custom" 102) "java/lang/String" "coder" "B") (.int 0)).before #[Value.ref sb] s = true := hs _ (by decide +kernel)
  have r1 : (Cond.arrayOf (.field (.string "HandsReturned$Custom" 102) "java/lang/String" "value" "[B") .byte).before #[Value.ref sb] s = true := hs _ (by decide +kernel)
  have l1 : (Cond.eq (.length (.field (.string "HandsReturned$Custom" 102) "java/lang/String" "value" "[B")) (.int 4)).before #[Value.ref sb] s = true := hs _ (by decide +kernel)
  have v1_0 : (Cond.eq (.elem (.field (.string "HandsReturned$Custom" 102) "java/lang/String" "value" "[B") (.int 0)) (.int 114)).before #[Value.ref sb] s = true := hs _ (by decide +kernel)
  have v1_1 : (Cond.eq (.elem (.field (.string "HandsReturned$Custom" 102) "java/lang/String" "value" "[B") (.int 1)) (.int 101)).before #[Value.ref sb] s = true := hs _ (by decide +kernel)
  have v1_2 : (Cond.eq (.elem (.field (.string "HandsReturned$Custom" 102) "java/lang/String" "value" "[B") (.int 2)) (.int 97)).before #[Value.ref sb] s = true := hs _ (by decide +kernel)
  have v1_3 : (Cond.eq (.elem (.field (.string "HandsReturned$Custom" 102) "java/lang/String" "value" "[B") (.int 3)) (.int 112)).before #[Value.ref sb] s = true := hs _ (by decide +kernel)
  have x2 : (Cond.exactly (.string "HandsReturned$Custom" 104) "java/lang/String").before #[Value.ref sb] s = true := hs _ (by decide +kernel)
  have c2 : (Cond.eq (.field (.string "HandsReturned$Custom" 104) "java/lang/String" "coder" "B") (.int 0)).before #[Value.ref sb] s = true := hs _ (by decide +kernel)
  have r2 : (Cond.arrayOf (.field (.string "HandsReturned$Custom" 104) "java/lang/String" "value" "[B") .byte).before #[Value.ref sb] s = true := hs _ (by decide +kernel)
  have l2 : (Cond.eq (.length (.field (.string "HandsReturned$Custom" 104) "java/lang/String" "value" "[B")) (.int 5)).before #[Value.ref sb] s = true := hs _ (by decide +kernel)
  have v2_0 : (Cond.eq (.elem (.field (.string "HandsReturned$Custom" 104) "java/lang/String" "value" "[B") (.int 0)) (.int 99)).before #[Value.ref sb] s = true := hs _ (by decide +kernel)
  have v2_1 : (Cond.eq (.elem (.field (.string "HandsReturned$Custom" 104) "java/lang/String" "value" "[B") (.int 1)) (.int 97)).before #[Value.ref sb] s = true := hs _ (by decide +kernel)
  have v2_2 : (Cond.eq (.elem (.field (.string "HandsReturned$Custom" 104) "java/lang/String" "value" "[B") (.int 2)) (.int 114)).before #[Value.ref sb] s = true := hs _ (by decide +kernel)
  have v2_3 : (Cond.eq (.elem (.field (.string "HandsReturned$Custom" 104) "java/lang/String" "value" "[B") (.int 3)) (.int 114)).before #[Value.ref sb] s = true := hs _ (by decide +kernel)
  have v2_4 : (Cond.eq (.elem (.field (.string "HandsReturned$Custom" 104) "java/lang/String" "value" "[B") (.int 4)) (.int 121)).before #[Value.ref sb] s = true := hs _ (by decide +kernel)
  have x3 : (Cond.exactly (.string "HandsReturned$Custom" 106) "java/lang/String").before #[Value.ref sb] s = true := hs _ (by decide +kernel)
  have c3 : (Cond.eq (.field (.string "HandsReturned$Custom" 106) "java/lang/String" "coder" "B") (.int 0)).before #[Value.ref sb] s = true := hs _ (by decide +kernel)
  have r3 : (Cond.arrayOf (.field (.string "HandsReturned$Custom" 106) "java/lang/String" "value" "[B") .byte).before #[Value.ref sb] s = true := hs _ (by decide +kernel)
  have l3 : (Cond.eq (.length (.field (.string "HandsReturned$Custom" 106) "java/lang/String" "value" "[B")) (.int 5)).before #[Value.ref sb] s = true := hs _ (by decide +kernel)
  have v3_0 : (Cond.eq (.elem (.field (.string "HandsReturned$Custom" 106) "java/lang/String" "value" "[B") (.int 0)) (.int 108)).before #[Value.ref sb] s = true := hs _ (by decide +kernel)
  have v3_1 : (Cond.eq (.elem (.field (.string "HandsReturned$Custom" 106) "java/lang/String" "value" "[B") (.int 1)) (.int 97)).before #[Value.ref sb] s = true := hs _ (by decide +kernel)
  have v3_2 : (Cond.eq (.elem (.field (.string "HandsReturned$Custom" 106) "java/lang/String" "value" "[B") (.int 2)) (.int 112)).before #[Value.ref sb] s = true := hs _ (by decide +kernel)
  have v3_3 : (Cond.eq (.elem (.field (.string "HandsReturned$Custom" 106) "java/lang/String" "value" "[B") (.int 3)) (.int 115)).before #[Value.ref sb] s = true := hs _ (by decide +kernel)
  have v3_4 : (Cond.eq (.elem (.field (.string "HandsReturned$Custom" 106) "java/lang/String" "value" "[B") (.int 4)) (.int 101)).before #[Value.ref sb] s = true := hs _ (by decide +kernel)
  have x4 : (Cond.exactly (.string "HandsReturned$Custom" 108) "java/lang/String").before #[Value.ref sb] s = true := hs _ (by decide +kernel)
  have c4 : (Cond.eq (.field (.string "HandsReturned$Custom" 108) "java/lang/String" "coder" "B") (.int 0)).before #[Value.ref sb] s = true := hs _ (by decide +kernel)
  have r4 : (Cond.arrayOf (.field (.string "HandsReturned$Custom" 108) "java/lang/String" "value" "[B") .byte).before #[Value.ref sb] s = true := hs _ (by decide +kernel)
  have l4 : (Cond.eq (.length (.field (.string "HandsReturned$Custom" 108) "java/lang/String" "value" "[B")) (.int 5)).before #[Value.ref sb] s = true := hs _ (by decide +kernel)
  have v4_0 : (Cond.eq (.elem (.field (.string "HandsReturned$Custom" 108) "java/lang/String" "value" "[B") (.int 0)) (.int 103)).before #[Value.ref sb] s = true := hs _ (by decide +kernel)
  have v4_1 : (Cond.eq (.elem (.field (.string "HandsReturned$Custom" 108) "java/lang/String" "value" "[B") (.int 1)) (.int 114)).before #[Value.ref sb] s = true := hs _ (by decide +kernel)
  have v4_2 : (Cond.eq (.elem (.field (.string "HandsReturned$Custom" 108) "java/lang/String" "value" "[B") (.int 2)) (.int 97)).before #[Value.ref sb] s = true := hs _ (by decide +kernel)
  have v4_3 : (Cond.eq (.elem (.field (.string "HandsReturned$Custom" 108) "java/lang/String" "value" "[B") (.int 3)) (.int 99)).before #[Value.ref sb] s = true := hs _ (by decide +kernel)
  have v4_4 : (Cond.eq (.elem (.field (.string "HandsReturned$Custom" 108) "java/lang/String" "value" "[B") (.int 4)) (.int 101)).before #[Value.ref sb] s = true := hs _ (by decide +kernel)
  have x5 : (Cond.exactly (.string "HandsReturned$Custom" 110) "java/lang/String").before #[Value.ref sb] s = true := hs _ (by decide +kernel)
  have c5 : (Cond.eq (.field (.string "HandsReturned$Custom" 110) "java/lang/String" "coder" "B") (.int 0)).before #[Value.ref sb] s = true := hs _ (by decide +kernel)
  have r5 : (Cond.arrayOf (.field (.string "HandsReturned$Custom" 110) "java/lang/String" "value" "[B") .byte).before #[Value.ref sb] s = true := hs _ (by decide +kernel)
  have l5 : (Cond.eq (.length (.field (.string "HandsReturned$Custom" 110) "java/lang/String" "value" "[B")) (.int 4)).before #[Value.ref sb] s = true := hs _ (by decide +kernel)
  have v5_0 : (Cond.eq (.elem (.field (.string "HandsReturned$Custom" 110) "java/lang/String" "value" "[B") (.int 0)) (.int 102)).before #[Value.ref sb] s = true := hs _ (by decide +kernel)
  have v5_1 : (Cond.eq (.elem (.field (.string "HandsReturned$Custom" 110) "java/lang/String" "value" "[B") (.int 1)) (.int 111)).before #[Value.ref sb] s = true := hs _ (by decide +kernel)
  have v5_2 : (Cond.eq (.elem (.field (.string "HandsReturned$Custom" 110) "java/lang/String" "value" "[B") (.int 2)) (.int 111)).before #[Value.ref sb] s = true := hs _ (by decide +kernel)
  have v5_3 : (Cond.eq (.elem (.field (.string "HandsReturned$Custom" 110) "java/lang/String" "value" "[B") (.int 3)) (.int 100)).before #[Value.ref sb] s = true := hs _ (by decide +kernel)
  have x6 : (Cond.exactly (.string "HandsReturned$Custom" 112) "java/lang/String").before #[Value.ref sb] s = true := hs _ (by decide +kernel)
  have c6 : (Cond.eq (.field (.string "HandsReturned$Custom" 112) "java/lang/String" "coder" "B") (.int 0)).before #[Value.ref sb] s = true := hs _ (by decide +kernel)
  have r6 : (Cond.arrayOf (.field (.string "HandsReturned$Custom" 112) "java/lang/String" "value" "[B") .byte).before #[Value.ref sb] s = true := hs _ (by decide +kernel)
  have l6 : (Cond.eq (.length (.field (.string "HandsReturned$Custom" 112) "java/lang/String" "value" "[B")) (.int 4)).before #[Value.ref sb] s = true := hs _ (by decide +kernel)
  have v6_0 : (Cond.eq (.elem (.field (.string "HandsReturned$Custom" 112) "java/lang/String" "value" "[B") (.int 0)) (.int 119)).before #[Value.ref sb] s = true := hs _ (by decide +kernel)
  have v6_1 : (Cond.eq (.elem (.field (.string "HandsReturned$Custom" 112) "java/lang/String" "value" "[B") (.int 1)) (.int 97)).before #[Value.ref sb] s = true := hs _ (by decide +kernel)
  have v6_2 : (Cond.eq (.elem (.field (.string "HandsReturned$Custom" 112) "java/lang/String" "value" "[B") (.int 2)) (.int 103)).before #[Value.ref sb] s = true := hs _ (by decide +kernel)
  have v6_3 : (Cond.eq (.elem (.field (.string "HandsReturned$Custom" 112) "java/lang/String" "value" "[B") (.int 3)) (.int 101)).before #[Value.ref sb] s = true := hs _ (by decide +kernel)
  have n0_1 : (Cond.not (Cond.eq (.string "HandsReturned$Custom" 100) (.string "HandsReturned$Custom" 102))).before #[Value.ref sb] s = true := hs _ (by decide +kernel)
  have n0_2 : (Cond.not (Cond.eq (.string "HandsReturned$Custom" 100) (.string "HandsReturned$Custom" 104))).before #[Value.ref sb] s = true := hs _ (by decide +kernel)
  have n0_3 : (Cond.not (Cond.eq (.string "HandsReturned$Custom" 100) (.string "HandsReturned$Custom" 106))).before #[Value.ref sb] s = true := hs _ (by decide +kernel)
  have n0_4 : (Cond.not (Cond.eq (.string "HandsReturned$Custom" 100) (.string "HandsReturned$Custom" 108))).before #[Value.ref sb] s = true := hs _ (by decide +kernel)
  have n0_5 : (Cond.not (Cond.eq (.string "HandsReturned$Custom" 100) (.string "HandsReturned$Custom" 110))).before #[Value.ref sb] s = true := hs _ (by decide +kernel)
  have n0_6 : (Cond.not (Cond.eq (.string "HandsReturned$Custom" 100) (.string "HandsReturned$Custom" 112))).before #[Value.ref sb] s = true := hs _ (by decide +kernel)
  have n1_2 : (Cond.not (Cond.eq (.string "HandsReturned$Custom" 102) (.string "HandsReturned$Custom" 104))).before #[Value.ref sb] s = true := hs _ (by decide +kernel)
  have n1_3 : (Cond.not (Cond.eq (.string "HandsReturned$Custom" 102) (.string "HandsReturned$Custom" 106))).before #[Value.ref sb] s = true := hs _ (by decide +kernel)
  have n1_4 : (Cond.not (Cond.eq (.string "HandsReturned$Custom" 102) (.string "HandsReturned$Custom" 108))).before #[Value.ref sb] s = true := hs _ (by decide +kernel)
  have n1_5 : (Cond.not (Cond.eq (.string "HandsReturned$Custom" 102) (.string "HandsReturned$Custom" 110))).before #[Value.ref sb] s = true := hs _ (by decide +kernel)
  have n1_6 : (Cond.not (Cond.eq (.string "HandsReturned$Custom" 102) (.string "HandsReturned$Custom" 112))).before #[Value.ref sb] s = true := hs _ (by decide +kernel)
  have n2_3 : (Cond.not (Cond.eq (.string "HandsReturned$Custom" 104) (.string "HandsReturned$Custom" 106))).before #[Value.ref sb] s = true := hs _ (by decide +kernel)
  have n2_4 : (Cond.not (Cond.eq (.string "HandsReturned$Custom" 104) (.string "HandsReturned$Custom" 108))).before #[Value.ref sb] s = true := hs _ (by decide +kernel)
  have n2_5 : (Cond.not (Cond.eq (.string "HandsReturned$Custom" 104) (.string "HandsReturned$Custom" 110))).before #[Value.ref sb] s = true := hs _ (by decide +kernel)
  have n2_6 : (Cond.not (Cond.eq (.string "HandsReturned$Custom" 104) (.string "HandsReturned$Custom" 112))).before #[Value.ref sb] s = true := hs _ (by decide +kernel)
  have n3_4 : (Cond.not (Cond.eq (.string "HandsReturned$Custom" 106) (.string "HandsReturned$Custom" 108))).before #[Value.ref sb] s = true := hs _ (by decide +kernel)
  have n3_5 : (Cond.not (Cond.eq (.string "HandsReturned$Custom" 106) (.string "HandsReturned$Custom" 110))).before #[Value.ref sb] s = true := hs _ (by decide +kernel)
  have n3_6 : (Cond.not (Cond.eq (.string "HandsReturned$Custom" 106) (.string "HandsReturned$Custom" 112))).before #[Value.ref sb] s = true := hs _ (by decide +kernel)
  have n4_5 : (Cond.not (Cond.eq (.string "HandsReturned$Custom" 108) (.string "HandsReturned$Custom" 110))).before #[Value.ref sb] s = true := hs _ (by decide +kernel)
  have n4_6 : (Cond.not (Cond.eq (.string "HandsReturned$Custom" 108) (.string "HandsReturned$Custom" 112))).before #[Value.ref sb] s = true := hs _ (by decide +kernel)
  have n5_6 : (Cond.not (Cond.eq (.string "HandsReturned$Custom" 110) (.string "HandsReturned$Custom" 112))).before #[Value.ref sb] s = true := hs _ (by decide +kernel)
  obtain ⟨adK, adV, hS7, hev⟩ := vk_Sof (args := #[Value.ref sb]) (s := s) (N := 7) (tm := fun i => .string "HandsReturned$Custom" (100 + 2 * i)) (len := zz_len7) (byt := zz_byt7) (A := (fun q : Nat => s.heap.size ≤ q)) (fun i hi => Nat.lt_of_le_of_lt (zz_len5 i hi) (by decide)) (fun i hi => by
    rcases (show i = 0 ∨ i = 1 ∨ i = 2 ∨ i = 3 ∨ i = 4 ∨ i = 5 ∨ i = 6 by omega) with rfl | rfl | rfl | rfl | rfl | rfl | rfl
    · exact x0
    · exact x1
    · exact x2
    · exact x3
    · exact x4
    · exact x5
    · exact x6) (fun i hi => by
    rcases (show i = 0 ∨ i = 1 ∨ i = 2 ∨ i = 3 ∨ i = 4 ∨ i = 5 ∨ i = 6 by omega) with rfl | rfl | rfl | rfl | rfl | rfl | rfl
    · exact c0
    · exact c1
    · exact c2
    · exact c3
    · exact c4
    · exact c5
    · exact c6) (fun i hi => by
    rcases (show i = 0 ∨ i = 1 ∨ i = 2 ∨ i = 3 ∨ i = 4 ∨ i = 5 ∨ i = 6 by omega) with rfl | rfl | rfl | rfl | rfl | rfl | rfl
    · exact r0
    · exact r1
    · exact r2
    · exact r3
    · exact r4
    · exact r5
    · exact r6) (fun i hi => by
    rcases (show i = 0 ∨ i = 1 ∨ i = 2 ∨ i = 3 ∨ i = 4 ∨ i = 5 ∨ i = 6 by omega) with rfl | rfl | rfl | rfl | rfl | rfl | rfl
    · exact l0
    · exact l1
    · exact l2
    · exact l3
    · exact l4
    · exact l5
    · exact l6) (fun i hi => by
    rcases (show i = 0 ∨ i = 1 ∨ i = 2 ∨ i = 3 ∨ i = 4 ∨ i = 5 ∨ i = 6 by omega) with rfl | rfl | rfl | rfl | rfl | rfl | rfl
    · intro j hj
      have hj : j < 5 := hj
      rcases (show j = 0 ∨ j = 1 ∨ j = 2 ∨ j = 3 ∨ j = 4 by omega) with rfl | rfl | rfl | rfl | rfl
      · exact v0_0
      · exact v0_1
      · exact v0_2
      · exact v0_3
      · exact v0_4
    · intro j hj
      have hj : j < 4 := hj
      rcases (show j = 0 ∨ j = 1 ∨ j = 2 ∨ j = 3 by omega) with rfl | rfl | rfl | rfl
      · exact v1_0
      · exact v1_1
      · exact v1_2
      · exact v1_3
    · intro j hj
      have hj : j < 5 := hj
      rcases (show j = 0 ∨ j = 1 ∨ j = 2 ∨ j = 3 ∨ j = 4 by omega) with rfl | rfl | rfl | rfl | rfl
      · exact v2_0
      · exact v2_1
      · exact v2_2
      · exact v2_3
      · exact v2_4
    · intro j hj
      have hj : j < 5 := hj
      rcases (show j = 0 ∨ j = 1 ∨ j = 2 ∨ j = 3 ∨ j = 4 by omega) with rfl | rfl | rfl | rfl | rfl
      · exact v3_0
      · exact v3_1
      · exact v3_2
      · exact v3_3
      · exact v3_4
    · intro j hj
      have hj : j < 5 := hj
      rcases (show j = 0 ∨ j = 1 ∨ j = 2 ∨ j = 3 ∨ j = 4 by omega) with rfl | rfl | rfl | rfl | rfl
      · exact v4_0
      · exact v4_1
      · exact v4_2
      · exact v4_3
      · exact v4_4
    · intro j hj
      have hj : j < 4 := hj
      rcases (show j = 0 ∨ j = 1 ∨ j = 2 ∨ j = 3 by omega) with rfl | rfl | rfl | rfl
      · exact v5_0
      · exact v5_1
      · exact v5_2
      · exact v5_3
    · intro j hj
      have hj : j < 4 := hj
      rcases (show j = 0 ∨ j = 1 ∨ j = 2 ∨ j = 3 by omega) with rfl | rfl | rfl | rfl
      · exact v6_0
      · exact v6_1
      · exact v6_2
      · exact v6_3) (fun i j hi hj hij => by
    rcases (show i = 0 ∨ i = 1 ∨ i = 2 ∨ i = 3 ∨ i = 4 ∨ i = 5 ∨ i = 6 by omega) with rfl | rfl | rfl | rfl | rfl | rfl | rfl
    · rcases (show j = 0 ∨ j = 1 ∨ j = 2 ∨ j = 3 ∨ j = 4 ∨ j = 5 ∨ j = 6 by omega) with rfl | rfl | rfl | rfl | rfl | rfl | rfl
      · exact absurd rfl hij
      · exact Or.inl n0_1
      · exact Or.inl n0_2
      · exact Or.inl n0_3
      · exact Or.inl n0_4
      · exact Or.inl n0_5
      · exact Or.inl n0_6
    · rcases (show j = 0 ∨ j = 1 ∨ j = 2 ∨ j = 3 ∨ j = 4 ∨ j = 5 ∨ j = 6 by omega) with rfl | rfl | rfl | rfl | rfl | rfl | rfl
      · exact Or.inr n0_1
      · exact absurd rfl hij
      · exact Or.inl n1_2
      · exact Or.inl n1_3
      · exact Or.inl n1_4
      · exact Or.inl n1_5
      · exact Or.inl n1_6
    · rcases (show j = 0 ∨ j = 1 ∨ j = 2 ∨ j = 3 ∨ j = 4 ∨ j = 5 ∨ j = 6 by omega) with rfl | rfl | rfl | rfl | rfl | rfl | rfl
      · exact Or.inr n0_2
      · exact Or.inr n1_2
      · exact absurd rfl hij
      · exact Or.inl n2_3
      · exact Or.inl n2_4
      · exact Or.inl n2_5
      · exact Or.inl n2_6
    · rcases (show j = 0 ∨ j = 1 ∨ j = 2 ∨ j = 3 ∨ j = 4 ∨ j = 5 ∨ j = 6 by omega) with rfl | rfl | rfl | rfl | rfl | rfl | rfl
      · exact Or.inr n0_3
      · exact Or.inr n1_3
      · exact Or.inr n2_3
      · exact absurd rfl hij
      · exact Or.inl n3_4
      · exact Or.inl n3_5
      · exact Or.inl n3_6
    · rcases (show j = 0 ∨ j = 1 ∨ j = 2 ∨ j = 3 ∨ j = 4 ∨ j = 5 ∨ j = 6 by omega) with rfl | rfl | rfl | rfl | rfl | rfl | rfl
      · exact Or.inr n0_4
      · exact Or.inr n1_4
      · exact Or.inr n2_4
      · exact Or.inr n3_4
      · exact absurd rfl hij
      · exact Or.inl n4_5
      · exact Or.inl n4_6
    · rcases (show j = 0 ∨ j = 1 ∨ j = 2 ∨ j = 3 ∨ j = 4 ∨ j = 5 ∨ j = 6 by omega) with rfl | rfl | rfl | rfl | rfl | rfl | rfl
      · exact Or.inr n0_5
      · exact Or.inr n1_5
      · exact Or.inr n2_5
      · exact Or.inr n3_5
      · exact Or.inr n4_5
      · exact absurd rfl hij
      · exact Or.inl n5_6
    · rcases (show j = 0 ∨ j = 1 ∨ j = 2 ∨ j = 3 ∨ j = 4 ∨ j = 5 ∨ j = 6 by omega) with rfl | rfl | rfl | rfl | rfl | rfl | rfl
      · exact Or.inr n0_6
      · exact Or.inr n1_6
      · exact Or.inr n2_6
      · exact Or.inr n3_6
      · exact Or.inr n4_6
      · exact Or.inr n5_6
      · exact absurd rfl hij) (fun a h => Nat.not_le.mpr h)
  refine ⟨adK, adV, hS7, fun i hi => ?_⟩
  rcases (show i = 0 ∨ i = 1 ∨ i = 2 ∨ i = 3 ∨ i = 4 ∨ i = 5 ∨ i = 6 by omega) with rfl | rfl | rfl | rfl | rfl | rfl | rfl
  · exact vk_R.of (hts (.stringRef RX0 100 "plant") (zz_t2 126 rfl)) (hev 0 (by decide))
  · exact vk_R.of (hts (.stringRef RX0 102 "reap") (zz_t2 127 rfl)) (hev 1 (by decide))
  · exact vk_R.of (hts (.stringRef RX0 104 "carry") (zz_t2 128 rfl)) (hev 2 (by decide))
  · exact vk_R.of (hts (.stringRef RX0 106 "lapse") (zz_t2 129 rfl)) (hev 3 (by decide))
  · exact vk_R.of (hts (.stringRef RX0 108 "grace") (zz_t2 130 rfl)) (hev 4 (by decide))
  · exact vk_R.of (hts (.stringRef RX0 110 "food") (zz_t2 131 rfl)) (hev 5 (by decide))
  · exact vk_R.of (hts (.stringRef RX0 112 "wage") (zz_t2 132 rfl)) (hev 6 (by decide))
set_option maxRecDepth 100000 in
theorem zz_glob {s : State} {sb : Nat} (hts : ∀ w ∈ lw_tbl, w.before #[Value.ref sb] s = true) (hgv : (Jvm.Cond.and given_1 narrow_1).before #[Value.ref sb] s = true) : ∃ (b0 b1 b2 : Nat) (adK adV : Nat → Nat), zz_G b0 b1 b2 adK adV (fun q : Nat => s.heap.size ≤ q) s := by
  have hs := flat_of_before _ hgv
  obtain ⟨b0, h0⟩ := zz_untold hts hgv
  obtain ⟨b1, h1, h2⟩ := zz_st_LEAST_TOLD hts hgv
  obtain ⟨b2, h3, h4⟩ := zz_st_MOST_TOLD hts hgv
  obtain ⟨adK, adV, h7, h8⟩ := zz_strs hts hgv
  have hc : (Cond.eq (.static "java/lang/String" "COMPACT_STRINGS" "Z") (.int 1)).before #[Value.ref sb] s = true := hs _ (by decide +kernel)
  have hq : (Cond.isRef (.static "jdk/internal/util/Preconditions" "SIOOBE_FORMATTER" "Ljava/util/function/BiFunction;")).before #[Value.ref sb] s = true := hs _ (by decide +kernel)
  exact ⟨b0, b1, b2, adK, adV, h0, h1, h2, h3, h4, va_Zof (hts _ (zz_t2 145 rfl)) (hts _ (zz_in_tbl tw_333)) (va_eqt hc) (fun a h => Nat.not_le.mpr h), va_Zqof (hts _ (zz_t2 161 rfl)) (hts _ (zz_in_tbl tw_339)) hq (fun a h => Nat.not_le.mpr h), h7, h8⟩
