theorem tw_666 : Cond.code yX7_planned cX7_planned 2 (some .int) ∈ zz_all := zz_m3 154 rfl rfl
theorem tw_667 : Cond.methodLink RL 100 yX7_planned ∈ zz_all := zz_m3 151 rfl rfl
theorem tw_668 : Cond.instanceMethod yX7_planned ∈ zz_all := zz_m3 152 rfl rfl
theorem tw_669 : Cond.selects RX7 yX7_planned yX7_planned ∈ zz_all := zz_m3 153 rfl rfl
theorem tw_670 : Cond.code yX8_planned cX8_planned 2 (some .int) ∈ zz_all := zz_m5 59 rfl rfl
theorem tw_671 : Cond.methodLink RL 103 yX8_planned ∈ zz_all := zz_m5 56 rfl rfl
theorem tw_672 : Cond.instanceMethod yX8_planned ∈ zz_all := zz_m5 57 rfl rfl
theorem tw_673 : Cond.selects RX8 yX8_planned yX8_planned ∈ zz_all := zz_m5 58 rfl rfl
theorem tw_674 : Cond.code yX7_about cX7_about 2 (some .int) ∈ zz_all := zz_m3 158 rfl rfl
theorem tw_675 : Cond.methodLink RL 104 yX7_about ∈ zz_all := zz_m3 155 rfl rfl
theorem tw_676 : Cond.instanceMethod yX7_about ∈ zz_all := zz_m3 156 rfl rfl
theorem tw_677 : Cond.selects RX7 yX7_about yX7_about ∈ zz_all := zz_m3 157 rfl rfl
theorem tw_678 : Cond.code yX8_about cX8_about 2 (some .int) ∈ zz_all := zz_m5 63 rfl rfl
theorem tw_679 : Cond.methodLink RL 107 yX8_about ∈ zz_all := zz_m5 60 rfl rfl
theorem tw_680 : Cond.instanceMethod yX8_about ∈ zz_all := zz_m5 61 rfl rfl
theorem tw_681 : Cond.selects RX8 yX8_about yX8_about ∈ zz_all := zz_m5 62 rfl rfl
theorem zy_b94lz_0 : decode cL_law 772 = .ok (.aload_n 1, 1) ∧ decode cL_law 773 = .ok (.aload_n 0, 1) ∧ decode cL_law 774 = .ok (.iload_n 3, 1) ∧ decode cL_law 775 = .ok (.iconst 1, 1) ∧ decode cL_law 776 = .ok (.iadd, 1) ∧ decode cL_law 777 = .ok (.iaload, 1) ∧ decode cL_law 778 = .ok (.invokevirtual 100, 3) ∧ decode cL_law 781 = .ok (.aload_n 2, 1) := by decide +kernel
theorem dL_law_772 : decode cL_law 772 = .ok (.aload_n 1, 1) := zy_b94lz_0.1
theorem dL_law_773 : decode cL_law 773 = .ok (.aload_n 0, 1) := zy_b94lz_0.2.1
theorem dL_law_774 : decode cL_law 774 = .ok (.iload_n 3, 1) := zy_b94lz_0.2.2.1
theorem dL_law_775 : decode cL_law 775 = .ok (.iconst 1, 1) := zy_b94lz_0.2.2.2.1
theorem dL_law_776 : decode cL_law 776 = .ok (.iadd, 1) := zy_b94lz_0.2.2.2.2.1
theorem dL_law_777 : decode cL_law 777 = .ok (.iaload, 1) := zy_b94lz_0.2.2.2.2.2.1
theorem dL_law_778 : decode cL_law 778 = .ok (.invokevirtual 100, 3) := zy_b94lz_0.2.2.2.2.2.2.1
theorem dL_law_781 : decode cL_law 781 = .ok (.aload_n 2, 1) := zy_b94lz_0.2.2.2.2.2.2.2
theorem zy_b94lz_1 : decode cL_law 782 = .ok (.aload_n 0, 1) ∧ decode cL_law 783 = .ok (.iload_n 3, 1) ∧ decode cL_law 784 = .ok (.iconst 1, 1) ∧ decode cL_law 785 = .ok (.iadd, 1) ∧ decode cL_law 786 = .ok (.iaload, 1) ∧ decode cL_law 787 = .ok (.invokevirtual 103, 3) ∧ decode cL_law 790 = .ok (.if_icmp .eq 28, 3) ∧ decode cL_law 795 = .ok (.aload_n 1, 1) := by decide +kernel
theorem dL_law_782 : decode cL_law 782 = .ok (.aload_n 0, 1) := zy_b94lz_1.1
theorem dL_law_783 : decode cL_law 783 = .ok (.iload_n 3, 1) := zy_b94lz_1.2.1
theorem dL_law_784 : decode cL_law 784 = .ok (.iconst 1, 1) := zy_b94lz_1.2.2.1
theorem dL_law_785 : decode cL_law 785 = .ok (.iadd, 1) := zy_b94lz_1.2.2.2.1
theorem dL_law_786 : decode cL_law 786 = .ok (.iaload, 1) := zy_b94lz_1.2.2.2.2.1
theorem dL_law_787 : decode cL_law 787 = .ok (.invokevirtual 103, 3) := zy_b94lz_1.2.2.2.2.2.1
theorem dL_law_790 : decode cL_law 790 = .ok (.if_icmp .eq 28, 3) := zy_b94lz_1.2.2.2.2.2.2.1
theorem dL_law_795 : decode cL_law 795 = .ok (.aload_n 1, 1) := zy_b94lz_1.2.2.2.2.2.2.2
theorem zy_b94lz_2 : decode cL_law 796 = .ok (.aload_n 0, 1) ∧ decode cL_law 797 = .ok (.iload_n 3, 1) ∧ decode cL_law 798 = .ok (.iconst 1, 1) ∧ decode cL_law 799 = .ok (.iadd, 1) ∧ decode cL_law 800 = .ok (.iaload, 1) ∧ decode cL_law 801 = .ok (.invokevirtual 104, 3) ∧ decode cL_law 804 = .ok (.pop, 1) ∧ decode cL_law 805 = .ok (.aload_n 2, 1) := by decide +kernel
theorem dL_law_796 : decode cL_law 796 = .ok (.aload_n 0, 1) := zy_b94lz_2.1
theorem dL_law_797 : decode cL_law 797 = .ok (.iload_n 3, 1) := zy_b94lz_2.2.1
theorem dL_law_798 : decode cL_law 798 = .ok (.iconst 1, 1) := zy_b94lz_2.2.2.1
theorem dL_law_799 : decode cL_law 799 = .ok (.iadd, 1) := zy_b94lz_2.2.2.2.1
theorem dL_law_800 : decode cL_law 800 = .ok (.iaload, 1) := zy_b94lz_2.2.2.2.2.1
theorem dL_law_801 : decode cL_law 801 = .ok (.invokevirtual 104, 3) := zy_b94lz_2.2.2.2.2.2.1
theorem dL_law_804 : decode cL_law 804 = .ok (.pop, 1) := zy_b94lz_2.2.2.2.2.2.2.1
theorem dL_law_805 : decode cL_law 805 = .ok (.aload_n 2, 1) := zy_b94lz_2.2.2.2.2.2.2.2
theorem zy_b94lz_3 : decode cL_law 806 = .ok (.aload_n 0, 1) ∧ decode cL_law 807 = .ok (.iload_n 3, 1) ∧ decode cL_law 808 = .ok (.iconst 1, 1) ∧ decode cL_law 809 = .ok (.iadd, 1) ∧ decode cL_law 810 = .ok (.iaload, 1) ∧ decode cL_law 811 = .ok (.invokevirtual 107, 3) ∧ decode cL_law 814 = .ok (.pop, 1) ∧ decode cL_law 815 = .ok (.goto 3, 3) := by decide +kernel
theorem dL_law_806 : decode cL_law 806 = .ok (.aload_n 0, 1) := zy_b94lz_3.1
theorem dL_law_807 : decode cL_law 807 = .ok (.iload_n 3, 1) := zy_b94lz_3.2.1
theorem dL_law_808 : decode cL_law 808 = .ok (.iconst 1, 1) := zy_b94lz_3.2.2.1
theorem dL_law_809 : decode cL_law 809 = .ok (.iadd, 1) := zy_b94lz_3.2.2.2.1
theorem dL_law_810 : decode cL_law 810 = .ok (.iaload, 1) := zy_b94lz_3.2.2.2.2.1
theorem dL_law_811 : decode cL_law 811 = .ok (.invokevirtual 107, 3) := zy_b94lz_3.2.2.2.2.2.1
theorem dL_law_814 : decode cL_law 814 = .ok (.pop, 1) := zy_b94lz_3.2.2.2.2.2.2.1
theorem dL_law_815 : decode cL_law 815 = .ok (.goto 3, 3) := zy_b94lz_3.2.2.2.2.2.2.2
set_option maxHeartbeats 4000000 in
set_option maxRecDepth 100000 in
theorem lc_planned {p : Program} {e : Env} {s : State} {m : MethodId} {below : List Frame} {meth : Method} {c : Code} (l : Launch) {sb SL : Nat} {xs : Nat → Int32} {dC : Nat → ClassId} {dI : Nat → Nat → Nat} {b0 b1 b2 : Nat} {adK adV : Nat → Nat} (a : Nat → Nat) (b : Nat → Nat) (cH : ClassId) (cF : ClassId) (cI : ClassId) (cB : ClassId) (cZ : ClassId) (fH : Nat → Option Nat) (fF : Nat → Option Nat) (L : List Nat) (K : Nat → Nat) (C0 : lw_At p s m meth c sb SL xs) (hN : zz_N s) (hU : zz_G b0 b1 b2 adK adV (fun q : Nat => s.heap.size ≤ q) s) (hfH : ∀ k, k < 8 → fH k = some (a (2 + k))) (hfF : ∀ k, k < 12 → fF k = some (a (11 + k))) (hH : ∀ k, k < 8 → a (2 + k) ∈ L ∧ K (a (2 + k)) = 4) (hF : ∀ k, k < 12 → a (11 + k) ∈ L ∧ K (a (11 + k)) = 3) (hK : va_K (dC, dI) vwCl [(cH, .object RX4), (cF, .object RX3), (cI, .int), (cB, .byte), (cZ, .boolean)] s) (hdj : zz_dj a) {k : Nat} (hk : 6 * k + 6 ≤ SL) (hL : SL ≤ 3072) (ih : ∀ (H : Heap) (locs : List Loc) (ls : Array Slot), zz_J (dC, dI) (fun q : Nat => s.heap.size ≤ q) a b cH cF cI cB cZ fH fF L K (k + 1) H → va_S (fun q : Nat => s.heap.size ≤ q) s.heap H locs → lv_has ls 4 [(3, .int (nI (6 * k + 6))), (2, .ref (b 0)), (1, .ref (a 0)), (0, .ref sb)] → W p l e room_1 s m #[Value.ref sb] below meth c H locs 85 4448 (lw_Z below #[Value.ref sb] s) (F0 m 18 ls [])) {H : Heap} {locs : List Loc} {ls : Array Slot} (hJ : zz_J (dC, dI) (fun q : Nat => s.heap.size ≤ q) a b cH cF cI cB cZ fH fF L K k H) (hS : va_S (fun q : Nat => s.heap.size ≤ q) s.heap H locs) (hl : lv_has ls 4 [(3, .int (nI (6 * k))), (2, .ref (b 0)), (1, .ref (a 0)), (0, .ref sb)]) : W p l e room_1 s m #[Value.ref sb] below meth c H locs 85 4448 (lw_Z below #[Value.ref sb] s) (F0 m 772 ls []) := by
  obtain ⟨hx, hb, hr, hml, hown, hts, hX, hbl, hlocks, hgv⟩ := id C0
  have hw : ∀ w ∈ zz_all, w.before #[Value.ref sb] s = true := fun w h => hts w (zz_in_tbl h)
  have hown : s.vm.findClass RL = some m.cls := hown
  have hA : ∀ q : Nat, s.heap.size ≤ q → (fun q : Nat => s.heap.size ≤ q) q := fun _ h => h
  have hbA : ¬ (fun q : Nat => s.heap.size ≤ q) sb := Nat.not_le.mpr hbl
  obtain ⟨jN, jX, jF, V, gg, ⟨hc8, hf12, hnc, hnt, hnd, hne, hnp, hcc, hbn, hmt, hmc, hmh, hmf, hmd, hro, hrk, hrn, hrr, hrv, hdn, hrd, hrc, hru, hcm, hpk, hag1, hag2, hag3, hag4, hby, hcu0, hcu1, htc, hed, heo, hec, hes, heu, hel, hhi, hR, hil, huq, hoc, hdq, hlr, hpc, hpq⟩, hP, hD⟩ := hJ
  refine lv_aload_n hx hb dL_law_772 rfl (lv_at hl 2 rfl) ?_
  refine lv_aload_n hx hb dL_law_773 rfl (lv_at hl 3 rfl) ?_
  refine lv_iload_n hx hb dL_law_774 rfl (lv_at hl 0 rfl) ?_
  refine lv_iconst (v := 1) hx hb dL_law_775 (by decide) ?_
  refine lv_iadd hx hb dL_law_776 ?_
  refine zz_seti (nI ((6 * k) + 1)) (nI_1 _) ?_
  refine va_sld hx hb hX hbl hbA hS (vp_in_iff.mpr (by rw [zz_toInt ((6 * k) + 1) (by omega)]; constructor <;> omega)) dL_law_777 ?_
  obtain ⟨hPc, hDc⟩ := zz_sub2 (ws' := [(a 0, .inr (7, [.ref (a 1), .ref (a 10), .ref (a 23), .ref (a 24), .ref (a 26), .ref (a 29), .ref (a 34), .ref (a 43), .int (nI (jN 0)), .int (nI (jN 1)), .int (nI (jN 2)), .int (jX 0)])), (a 43, .inr (5, [.ref (a 44), .ref (a 45), .ref (a 46), .ref (a 47), .ref (a 48), .ref (a 49), .ref (a 50), .ref (a 51), .int (nI (jN 7)), .int (nI (jN 6)), .int (jX 7), .int (jX 8)])), (a 51, .inl (cI, 7, .inl (jF 23)))]) hP hD [0, 23, 31] (by decide) rfl
  have hKc := hK.sub (tys' := [(cI, .int)]) [2] rfl
  have hFc := zz_free0 hS hA
  refine va_calli (va_runV (As := [.int (xs (Int32.toNatClampNeg (nI ((6 * k) + 1))))]) (rest := []) ⟨hx, hb, hml, hown, hw⟩ (kx_planned l dC dI a (jN 0) (jN 1) (nI (jN 2)) (jX 0) cI (jN 6) (jN 7) (jX 7) (jX 8) (jF 23) (xs (Int32.toNatClampNeg (nI ((6 * k) + 1)))) H.size (by omega)) ⟨callB_of 1 hw (zz_good tw_666) rfl rfl rfl (hw _ tw_2) (hw _ tw_667) (by decide +kernel) ⟨Nat.le_of_ble_eq_true rfl, Nat.le_of_ble_eq_true rfl⟩, (hw _ tw_668), (hw _ tw_669)⟩ ⟨zz_blind, va_recv hKc hPc (ci := 7) (q0 := 0) rfl rfl, zz_pre hPc hKc hDc hN⟩ rfl rfl hl.1 rfl (lv_room (Nat.le_of_ble_eq_true rfl)) dL_law_778 ⟨Nat.le_of_ble_eq_true rfl, Nat.le_of_ble_eq_true rfl⟩) hS (fun q _ h => hFc q h) hFc (fun r_1 u_1 t H1 locs ht hvm e_1 hB hz1 hk1 hS => ?_)
  try dsimp only at e_1
  have hP := zz_keep hP hk1
  clear hk1 hB ht hvm
  generalize H1 = H at hP hS ⊢
  refine lv_aload_n hx hb dL_law_781 rfl (lv_at hl 1 rfl) ?_
  refine lv_aload_n hx hb dL_law_782 rfl (lv_at hl 3 rfl) ?_
  refine lv_iload_n hx hb dL_law_783 rfl (lv_at hl 0 rfl) ?_
  refine lv_iconst (v := 1) hx hb dL_law_784 (by decide) ?_
  refine lv_iadd hx hb dL_law_785 ?_
  refine zz_seti (nI ((6 * k) + 1)) (nI_1 _) ?_
  refine va_sld hx hb hX hbl hbA hS (vp_in_iff.mpr (by rw [zz_toInt ((6 * k) + 1) (by omega)]; constructor <;> omega)) dL_law_786 ?_
  obtain ⟨hPc, hDc⟩ := zz_sub2 (ws' := [(b 0, .inr (8, [.ref (b 1), .int (nI (jN 8)), .int (gg 2), .int (gg 3), .int (gg 4), .int (gg 5), .int (gg 6), .int (gg 7), .int (gg 8), .int (gg 9), .ref (b 11), .ref (b 12), .ref (b 13), .int (nI (jN 9)), .int (nI (jN 10)), .ref (b 16), .ref (b 17), .ref (b 18), .ref (b 19), .ref (b 20), .ref (b 21), .ref (b 22), .ref (b 23), .ref (b 24), .int (nI (jN 11)), .ref (b 26), .ref (b 27), .ref (b 28), .ref (b 29), .ref (b 30), .ref (b 31), .ref (b 32), .int (gg 32), .int (nI (jN 12)), .ref (b 35), .ref (b 36), .ref (b 37), .ref (b 38), .ref (b 39), .ref (b 40), .int (gg 40), .ref (b 42), .ref (b 43), .ref (b 44), .int (gg 44), .ref (b 46), .ref (b 47), .int (gg 47), .ref (b 49)])), (b 49, .inl (cI, 7, .inl (jF 55)))]) hP hD [32, 64] (by decide) rfl
  have hKc := hK.sub (tys' := [(cI, .int)]) [2] rfl
  have hFc := zz_free0 hS hA
  refine va_calli (va_runV (As := [.int (xs (Int32.toNatClampNeg (nI ((6 * k) + 1))))]) (rest := [.int r_1]) ⟨hx, hb, hml, hown, hw⟩ (mx_planned l dC dI b gg (jN 8) (jN 9) (jN 10) (jN 11) (jN 12) cI (jF 55) (xs (Int32.toNatClampNeg (nI ((6 * k) + 1)))) H.size hpk) ⟨callB_of 1 hw (zz_good tw_670) rfl rfl rfl (hw _ tw_184) (hw _ tw_671) (by decide +kernel) ⟨Nat.le_of_ble_eq_true rfl, Nat.le_of_ble_eq_true rfl⟩, (hw _ tw_672), (hw _ tw_673)⟩ ⟨zz_blind, va_recv hKc hPc (ci := 8) (q0 := 0) rfl rfl, zz_pre hPc hKc hDc hN⟩ rfl rfl hl.1 rfl (lv_room (Nat.le_of_ble_eq_true rfl)) dL_law_787 ⟨Nat.le_of_ble_eq_true rfl, Nat.le_of_ble_eq_true rfl⟩) hS (fun q _ h => hFc q h) hFc (fun r_2 u_2 t H1 locs ht hvm e_2 hB hz1 hk1 hS => ?_)
  try dsimp only at e_2
  have hP := zz_keep hP hk1
  clear hk1 hB ht hvm
  generalize H1 = H at hP hS ⊢
  refine lv_icmp_eq (tgt := 818) hx hb dL_law_790 (by decide) (fun _ => ?_) (fun c_3 => absurd c_3 (fun z9 => z9 ((zz_J_planned hpc hpq hcc e_1 e_2))))
  refine lv_iinc (v := (nI ((6 * k) + 6))) (lv' := [(3, .int (nI ((6 * k) + 6))), (2, .ref (b 0)), (1, .ref (a 0)), (0, .ref sb)]) hx hb dL_law_818 hl (k := 0) rfl (nI_add _ 6) (by decide) rfl (fun ls hl => ?_)
  refine lv_goto (tgt := 18) hx hb dL_law_821 (by decide) ?_
  have hP9 := hP
  have hD9 := hD
  exact ih _ _ _ ⟨(fun j => ([(jN 0), (jN 1), (jN 2), (jN 3), (jN 4), (jN 5), (jN 6), (jN 7), (jN 8), (jN 9), (jN 10), (jN 11), (jN 12)] : List Nat).getD j 0), (fun j => ([(jX 0), (jX 1), (jX 2), (jX 3), (jX 4), (jX 5), (jX 6), (jX 7), (jX 8)] : List Int32).getD j 0), (fun j => ([(jF 0), (jF 1), (jF 2), (jF 3), (jF 4), (jF 5), (jF 6), (jF 7), (jF 8), (jF 9), (jF 10), (jF 11), (jF 12), (jF 13), (jF 14), (jF 15), (jF 16), (jF 17), (jF 18), (jF 19), (jF 20), (jF 21), (jF 22), (jF 23), (jF 24), (jF 25), (jF 26), (jF 27), (jF 28), (jF 29), (jF 30), (jF 31), (jF 32), (jF 33), (jF 34), (jF 35), (jF 36), (jF 37), (jF 38), (jF 39), (jF 40), (jF 41), (jF 42), (jF 43), (jF 44), (jF 45), (jF 46), (jF 47), (jF 48), (jF 49), (jF 50), (jF 51), (jF 52), (jF 53), (jF 54), (jF 55)] : List (Nat → Int32)).getD j (fun _ => 0)), V, gg, ⟨(show (jN 0) ≤ 8 from by omega), (show (jN 1) ≤ 12 from by omega), (show (jN 2) ≤ 400 from by omega), (show (jN 3) ≤ 200 from by omega), (show (jN 4) ≤ 300 from by omega), (show (jN 5) ≤ 8 from by omega), (show (jN 6) ≤ 7 from by omega), (show (jN 7) ≤ 7 from by omega), hbn, (show (jN 8) ≤ 200 from by omega), (show (jN 9) ≤ 400 from by omega), (show (jN 10) ≤ 8 from by omega), (show (jN 11) ≤ 12 from by omega), (show (jN 12) ≤ 300 from by omega), hro, hrk, hrn, hrr, hrv, hdn, hrd, hrc, (show zz_rg (jF 47) (jN 12) 0 (5940 * ((k + 1 : Nat) : Int)) from (zz_rg_wk hru (by omega))), hcm, hpk, (show (jN 0) = (jN 10) from by omega), (show (jN 1) = (jN 11) from by omega), (show (jN 2) = (jN 9) from by omega), (show (jN 3) = (jN 8) from by omega), hby, hcu0, hcu1, htc, (show (jN 4) = (jN 12) from by omega), heo, hec, hes, heu, hel, hhi, hR, hil, huq, hoc, hdq, hlr, hpc, hpq⟩, hP9, hD9⟩ hS (lv_sub hl [0, 1, 2, 3] rfl)
set_option maxHeartbeats 4000000 in
set_option maxRecDepth 100000 in
theorem lc_about {p : Program} {e : Env} {s : State} {m : MethodId} {below : List Frame} {meth : Method} {c : Code} (l : Launch) {sb SL : Nat} {xs : Nat → Int32} {dC : Nat → ClassId} {dI : Nat → Nat → Nat} {b0 b1 b2 : Nat} {adK adV : Nat → Nat} (a : Nat → Nat) (b : Nat → Nat) (cH : ClassId) (cF : ClassId) (cI : ClassId) (cB : ClassId) (cZ : ClassId) (fH : Nat → Option Nat) (fF : Nat → Option Nat) (L : List Nat) (K : Nat → Nat) (C0 : lw_At p s m meth c sb SL xs) (hN : zz_N s) (hU : zz_G b0 b1 b2 adK adV (fun q : Nat => s.heap.size ≤ q) s) (hfH : ∀ k, k < 8 → fH k = some (a (2 + k))) (hfF : ∀ k, k < 12 → fF k = some (a (11 + k))) (hH : ∀ k, k < 8 → a (2 + k) ∈ L ∧ K (a (2 + k)) = 4) (hF : ∀ k, k < 12 → a (11 + k) ∈ L ∧ K (a (11 + k)) = 3) (hK : va_K (dC, dI) vwCl [(cH, .object RX4), (cF, .object RX3), (cI, .int), (cB, .byte), (cZ, .boolean)] s) (hdj : zz_dj a) {k : Nat} (hk : 6 * k + 6 ≤ SL) (hL : SL ≤ 3072) (ih : ∀ (H : Heap) (locs : List Loc) (ls : Array Slot), zz_J (dC, dI) (fun q : Nat => s.heap.size ≤ q) a b cH cF cI cB cZ fH fF L K (k + 1) H → va_S (fun q : Nat => s.heap.size ≤ q) s.heap H locs → lv_has ls 4 [(3, .int (nI (6 * k + 6))), (2, .ref (b 0)), (1, .ref (a 0)), (0, .ref sb)] → W p l e room_1 s m #[Value.ref sb] below meth c H locs 85 4448 (lw_Z below #[Value.ref sb] s) (F0 m 18 ls [])) {H : Heap} {locs : List Loc} {ls : Array Slot} (hJ : zz_J (dC, dI) (fun q : Nat => s.heap.size ≤ q) a b cH cF cI cB cZ fH fF L K k H) (hS : va_S (fun q : Nat => s.heap.size ≤ q) s.heap H locs) (hl : lv_has ls 4 [(3, .int (nI (6 * k))), (2, .ref (b 0)), (1, .ref (a 0)), (0, .ref sb)]) : W p l e room_1 s m #[Value.ref sb] below meth c H locs 85 4448 (lw_Z below #[Value.ref sb] s) (F0 m 795 ls []) := by
  obtain ⟨hx, hb, hr, hml, hown, hts, hX, hbl, hlocks, hgv⟩ := id C0
  have hw : ∀ w ∈ zz_all, w.before #[Value.ref sb] s = true := fun w h => hts w (zz_in_tbl h)
  have hown : s.vm.findClass RL = some m.cls := hown
  have hA : ∀ q : Nat, s.heap.size ≤ q → (fun q : Nat => s.heap.size ≤ q) q := fun _ h => h
  have hbA : ¬ (fun q : Nat => s.heap.size ≤ q) sb := Nat.not_le.mpr hbl
  obtain ⟨jN, jX, jF, V, gg, ⟨hc8, hf12, hnc, hnt, hnd, hne, hnp, hcc, hbn, hmt, hmc, hmh, hmf, hmd, hro, hrk, hrn, hrr, hrv, hdn, hrd, hrc, hru, hcm, hpk, hag1, hag2, hag3, hag4, hby, hcu0, hcu1, htc, hed, heo, hec, hes, heu, hel, hhi, hR, hil, huq, hoc, hdq, hlr, hpc, hpq⟩, hP, hD⟩ := hJ
  refine lv_aload_n hx hb dL_law_795 rfl (lv_at hl 2 rfl) ?_
  refine lv_aload_n hx hb dL_law_796 rfl (lv_at hl 3 rfl) ?_
  refine lv_iload_n hx hb dL_law_797 rfl (lv_at hl 0 rfl) ?_
  refine lv_iconst (v := 1) hx hb dL_law_798 (by decide) ?_
  refine lv_iadd hx hb dL_law_799 ?_
  refine zz_seti (nI ((6 * k) + 1)) (nI_1 _) ?_
  refine va_sld hx hb hX hbl hbA hS (vp_in_iff.mpr (by rw [zz_toInt ((6 * k) + 1) (by omega)]; constructor <;> omega)) dL_law_800 ?_
  obtain ⟨hPc, hDc⟩ := zz_sub2 (ws' := [(a 0, .inr (7, [.ref (a 1), .ref (a 10), .ref (a 23), .ref (a 24), .ref (a 26), .ref (a 29), .ref (a 34), .ref (a 43), .int (nI (jN 0)), .int (nI (jN 1)), .int (nI (jN 2)), .int (jX 0)])), (a 29, .inr (1, [.ref (a 30), .ref (a 31), .ref (a 32), .ref (a 33), .int (nI (jN 4))])), (a 24, .inr (6, [.ref (a 25), .int (nI (jN 3))])), (a 23, .inl (cI, 10, .inl (jF 0)))]) hP hD [0, 9, 4, 3] (by decide) rfl
  have hKc := hK.sub (tys' := [(cI, .int)]) [2] rfl
  have hFc := zz_free0 hS hA
  refine va_calli (va_runV (As := [.int (xs (Int32.toNatClampNeg (nI ((6 * k) + 1))))]) (rest := []) ⟨hx, hb, hml, hown, hw⟩ (kx_about l dC dI a (jN 0) (jN 1) (nI (jN 2)) (jX 0) cI (jN 4) (jN 3) (jF 0) (xs (Int32.toNatClampNeg (nI ((6 * k) + 1)))) H.size) ⟨callB_of 1 hw (zz_good tw_674) rfl rfl rfl (hw _ tw_2) (hw _ tw_675) (by decide +kernel) ⟨Nat.le_of_ble_eq_true rfl, Nat.le_of_ble_eq_true rfl⟩, (hw _ tw_676), (hw _ tw_677)⟩ ⟨zz_blind, va_recv hKc hPc (ci := 7) (q0 := 0) rfl rfl, zz_pre hPc hKc hDc hN⟩ rfl rfl hl.1 rfl (lv_room (Nat.le_of_ble_eq_true rfl)) dL_law_801 ⟨Nat.le_of_ble_eq_true rfl, Nat.le_of_ble_eq_true rfl⟩) hS (fun q _ h => hFc q h) hFc (fun r_1 u_1 t H1 locs ht hvm e_1 hB hz1 hk1 hS => ?_)
  try dsimp only at e_1
  have hP := zz_keep hP hk1
  clear hk1 hB ht hvm
  generalize H1 = H at hP hS ⊢
  refine lv_pop hx hb dL_law_804 rfl ?_
  refine lv_aload_n hx hb dL_law_805 rfl (lv_at hl 1 rfl) ?_
  refine lv_aload_n hx hb dL_law_806 rfl (lv_at hl 3 rfl) ?_
  refine lv_iload_n hx hb dL_law_807 rfl (lv_at hl 0 rfl) ?_
  refine lv_iconst (v := 1) hx hb dL_law_808 (by decide) ?_
  refine lv_iadd hx hb dL_law_809 ?_
  refine zz_seti (nI ((6 * k) + 1)) (nI_1 _) ?_
  refine va_sld hx hb hX hbl hbA hS (vp_in_iff.mpr (by rw [zz_toInt ((6 * k) + 1) (by omega)]; constructor <;> omega)) dL_law_810 ?_
  obtain ⟨hPc, hDc⟩ := zz_sub2 (ws' := [(b 0, .inr (8, [.ref (b 1), .int (nI (jN 8)), .int (gg 2), .int (gg 3), .int (gg 4), .int (gg 5), .int (gg 6), .int (gg 7), .int (gg 8), .int (gg 9), .ref (b 11), .ref (b 12), .ref (b 13), .int (nI (jN 9)), .int (nI (jN 10)), .ref (b 16), .ref (b 17), .ref (b 18), .ref (b 19), .ref (b 20), .ref (b 21), .ref (b 22), .ref (b 23), .ref (b 24), .int (nI (jN 11)), .ref (b 26), .ref (b 27), .ref (b 28), .ref (b 29), .ref (b 30), .ref (b 31), .ref (b 32), .int (gg 32), .int (nI (jN 12)), .ref (b 35), .ref (b 36), .ref (b 37), .ref (b 38), .ref (b 39), .ref (b 40), .int (gg 40), .ref (b 42), .ref (b 43), .ref (b 44), .int (gg 44), .ref (b 46), .ref (b 47), .int (gg 47), .ref (b 49)])), (b 24, .inl (cI, 10, .inl (jF 36)))]) hP hD [32, 45] (by decide) rfl
  have hKc := hK.sub (tys' := [(cI, .int)]) [2] rfl
  have hFc := zz_free0 hS hA
  refine va_calli (va_runV (As := [.int (xs (Int32.toNatClampNeg (nI ((6 * k) + 1))))]) (rest := []) ⟨hx, hb, hml, hown, hw⟩ (mx_about l dC dI b gg (jN 8) (jN 9) (jN 10) (jN 11) (jN 12) cI (jF 36) (xs (Int32.toNatClampNeg (nI ((6 * k) + 1)))) H.size) ⟨callB_of 1 hw (zz_good tw_678) rfl rfl rfl (hw _ tw_184) (hw _ tw_679) (by decide +kernel) ⟨Nat.le_of_ble_eq_true rfl, Nat.le_of_ble_eq_true rfl⟩, (hw _ tw_680), (hw _ tw_681)⟩ ⟨zz_blind, va_recv hKc hPc (ci := 8) (q0 := 0) rfl rfl, zz_pre hPc hKc hDc hN⟩ rfl rfl hl.1 rfl (lv_room (Nat.le_of_ble_eq_true rfl)) dL_law_811 ⟨Nat.le_of_ble_eq_true rfl, Nat.le_of_ble_eq_true rfl⟩) hS (fun q _ h => hFc q h) hFc (fun r_2 u_2 t H1 locs ht hvm e_2 hB hz1 hk1 hS => ?_)
  try dsimp only at e_2
  have hP := zz_keep hP hk1
  clear hk1 hB ht hvm
  generalize H1 = H at hP hS ⊢
  refine lv_pop hx hb dL_law_814 rfl ?_
  refine lv_goto (tgt := 818) hx hb dL_law_815 (by decide) ?_
  refine lv_iinc (v := (nI ((6 * k) + 6))) (lv' := [(3, .int (nI ((6 * k) + 6))), (2, .ref (b 0)), (1, .ref (a 0)), (0, .ref sb)]) hx hb dL_law_818 hl (k := 0) rfl (nI_add _ 6) (by decide) rfl (fun ls hl => ?_)
  refine lv_goto (tgt := 18) hx hb dL_law_821 (by decide) ?_
  have hP9 := hP
  have hD9 := hD
  exact ih _ _ _ ⟨(fun j => ([(jN 0), (jN 1), (jN 2), (jN 3), (jN 4), (jN 5), (jN 6), (jN 7), (jN 8), (jN 9), (jN 10), (jN 11), (jN 12)] : List Nat).getD j 0), (fun j => ([(jX 0), (jX 1), (jX 2), (jX 3), (jX 4), (jX 5), (jX 6), (jX 7), (jX 8)] : List Int32).getD j 0), (fun j => ([(jF 0), (jF 1), (jF 2), (jF 3), (jF 4), (jF 5), (jF 6), (jF 7), (jF 8), (jF 9), (jF 10), (jF 11), (jF 12), (jF 13), (jF 14), (jF 15), (jF 16), (jF 17), (jF 18), (jF 19), (jF 20), (jF 21), (jF 22), (jF 23), (jF 24), (jF 25), (jF 26), (jF 27), (jF 28), (jF 29), (jF 30), (jF 31), (jF 32), (jF 33), (jF 34), (jF 35), (jF 36), (jF 37), (jF 38), (jF 39), (jF 40), (jF 41), (jF 42), (jF 43), (jF 44), (jF 45), (jF 46), (jF 47), (jF 48), (jF 49), (jF 50), (jF 51), (jF 52), (jF 53), (jF 54), (jF 55)] : List (Nat → Int32)).getD j (fun _ => 0)), V, gg, ⟨(show (jN 0) ≤ 8 from by omega), (show (jN 1) ≤ 12 from by omega), (show (jN 2) ≤ 400 from by omega), (show (jN 3) ≤ 200 from by omega), (show (jN 4) ≤ 300 from by omega), (show (jN 5) ≤ 8 from by omega), (show (jN 6) ≤ 7 from by omega), (show (jN 7) ≤ 7 from by omega), hbn, (show (jN 8) ≤ 200 from by omega), (show (jN 9) ≤ 400 from by omega), (show (jN 10) ≤ 8 from by omega), (show (jN 11) ≤ 12 from by omega), (show (jN 12) ≤ 300 from by omega), hro, hrk, hrn, hrr, hrv, hdn, hrd, hrc, (show zz_rg (jF 47) (jN 12) 0 (5940 * ((k + 1 : Nat) : Int)) from (zz_rg_wk hru (by omega))), hcm, hpk, (show (jN 0) = (jN 10) from by omega), (show (jN 1) = (jN 11) from by omega), (show (jN 2) = (jN 9) from by omega), (show (jN 3) = (jN 8) from by omega), hby, hcu0, hcu1, htc, (show (jN 4) = (jN 12) from by omega), heo, hec, hes, heu, hel, hhi, hR, hil, huq, hoc, hdq, hlr, hpc, hpq⟩, hP9, hD9⟩ hS (lv_sub hl [0, 1, 2, 3] rfl)
set_option maxHeartbeats 4000000 in
set_option maxRecDepth 100000 in
theorem lc_other {p : Program} {e : Env} {s : State} {m : MethodId} {below : List Frame} {meth : Method} {c : Code} (l : Launch) {sb SL : Nat} {xs : Nat → Int32} {dC : Nat → ClassId} {dI : Nat → Nat → Nat} {b0 b1 b2 : Nat} {adK adV : Nat → Nat} (a : Nat → Nat) (b : Nat → Nat) (cH : ClassId) (cF : ClassId) (cI : ClassId) (cB : ClassId) (cZ : ClassId) (fH : Nat → Option Nat) (fF : Nat → Option Nat) (L : List Nat) (K : Nat → Nat) (C0 : lw_At p s m meth c sb SL xs) (hN : zz_N s) (hU : zz_G b0 b1 b2 adK adV (fun q : Nat => s.heap.size ≤ q) s) (hfH : ∀ k, k < 8 → fH k = some (a (2 + k))) (hfF : ∀ k, k < 12 → fF k = some (a (11 + k))) (hH : ∀ k, k < 8 → a (2 + k) ∈ L ∧ K (a (2 + k)) = 4) (hF : ∀ k, k < 12 → a (11 + k) ∈ L ∧ K (a (11 + k)) = 3) (hK : va_K (dC, dI) vwCl [(cH, .object RX4), (cF, .object RX3), (cI, .int), (cB, .byte), (cZ, .boolean)] s) (hdj : zz_dj a) {k : Nat} (hk : 6 * k + 6 ≤ SL) (hL : SL ≤ 3072) (ih : ∀ (H : Heap) (locs : List Loc) (ls : Array Slot), zz_J (dC, dI) (fun q : Nat => s.heap.size ≤ q) a b cH cF cI cB cZ fH fF L K (k + 1) H → va_S (fun q : Nat => s.heap.size ≤ q) s.heap H locs → lv_has ls 4 [(3, .int (nI (6 * k + 6))), (2, .ref (b 0)), (1, .ref (a 0)), (0, .ref sb)] → W p l e room_1 s m #[Value.ref sb] below meth c H locs 85 4448 (lw_Z below #[Value.ref sb] s) (F0 m 18 ls [])) {H : Heap} {locs : List Loc} {ls : Array Slot} (hJ : zz_J (dC, dI) (fun q : Nat => s.heap.size ≤ q) a b cH cF cI cB cZ fH fF L K k H) (hS : va_S (fun q : Nat => s.heap.size ≤ q) s.heap H locs) (hl : lv_has ls 4 [(3, .int (nI (6 * k))), (2, .ref (b 0)), (1, .ref (a 0)), (0, .ref sb)]) : W p l e room_1 s m #[Value.ref sb] below meth c H locs 85 4448 (lw_Z below #[Value.ref sb] s) (F0 m 818 ls []) := by
  obtain ⟨hx, hb, hr, hml, hown, hts, hX, hbl, hlocks, hgv⟩ := id C0
  have hw : ∀ w ∈ zz_all, w.before #[Value.ref sb] s = true := fun w h => hts w (zz_in_tbl h)
  have hown : s.vm.findClass RL = some m.cls := hown
  have hA : ∀ q : Nat, s.heap.size ≤ q → (fun q : Nat => s.heap.size ≤ q) q := fun _ h => h
  have hbA : ¬ (fun q : Nat => s.heap.size ≤ q) sb := Nat.not_le.mpr hbl
  obtain ⟨jN, jX, jF, V, gg, ⟨hc8, hf12, hnc, hnt, hnd, hne, hnp, hcc, hbn, hmt, hmc, hmh, hmf, hmd, hro, hrk, hrn, hrr, hrv, hdn, hrd, hrc, hru, hcm, hpk, hag1, hag2, hag3, hag4, hby, hcu0, hcu1, htc, hed, heo, hec, hes, heu, hel, hhi, hR, hil, huq, hoc, hdq, hlr, hpc, hpq⟩, hP, hD⟩ := hJ
  refine lv_iinc (v := (nI ((6 * k) + 6))) (lv' := [(3, .int (nI ((6 * k) + 6))), (2, .ref (b 0)), (1, .ref (a 0)), (0, .ref sb)]) hx hb dL_law_818 hl (k := 0) rfl (nI_add _ 6) (by decide) rfl (fun ls hl => ?_)
  refine lv_goto (tgt := 18) hx hb dL_law_821 (by decide) ?_
  have hP9 := hP
  have hD9 := hD
  exact ih _ _ _ ⟨(fun j => ([(jN 0), (jN 1), (jN 2), (jN 3), (jN 4), (jN 5), (jN 6), (jN 7), (jN 8), (jN 9), (jN 10), (jN 11), (jN 12)] : List Nat).getD j 0), (fun j => ([(jX 0), (jX 1), (jX 2), (jX 3), (jX 4), (jX 5), (jX 6), (jX 7), (jX 8)] : List Int32).getD j 0), (fun j => ([(jF 0), (jF 1), (jF 2), (jF 3), (jF 4), (jF 5), (jF 6), (jF 7), (jF 8), (jF 9), (jF 10), (jF 11), (jF 12), (jF 13), (jF 14), (jF 15), (jF 16), (jF 17), (jF 18), (jF 19), (jF 20), (jF 21), (jF 22), (jF 23), (jF 24), (jF 25), (jF 26), (jF 27), (jF 28), (jF 29), (jF 30), (jF 31), (jF 32), (jF 33), (jF 34), (jF 35), (jF 36), (jF 37), (jF 38), (jF 39), (jF 40), (jF 41), (jF 42), (jF 43), (jF 44), (jF 45), (jF 46), (jF 47), (jF 48), (jF 49), (jF 50), (jF 51), (jF 52), (jF 53), (jF 54), (jF 55)] : List (Nat → Int32)).getD j (fun _ => 0)), V, gg, ⟨(show (jN 0) ≤ 8 from by omega), (show (jN 1) ≤ 12 from by omega), (show (jN 2) ≤ 400 from by omega), (show (jN 3) ≤ 200 from by omega), (show (jN 4) ≤ 300 from by omega), (show (jN 5) ≤ 8 from by omega), (show (jN 6) ≤ 7 from by omega), (show (jN 7) ≤ 7 from by omega), hbn, (show (jN 8) ≤ 200 from by omega), (show (jN 9) ≤ 400 from by omega), (show (jN 10) ≤ 8 from by omega), (show (jN 11) ≤ 12 from by omega), (show (jN 12) ≤ 300 from by omega), hro, hrk, hrn, hrr, hrv, hdn, hrd, hrc, (show zz_rg (jF 47) (jN 12) 0 (5940 * ((k + 1 : Nat) : Int)) from (zz_rg_wk hru (by omega))), hcm, hpk, (show (jN 0) = (jN 10) from by omega), (show (jN 1) = (jN 11) from by omega), (show (jN 2) = (jN 9) from by omega), (show (jN 3) = (jN 8) from by omega), hby, hcu0, hcu1, htc, (show (jN 4) = (jN 12) from by omega), heo, hec, hes, heu, hel, hhi, hR, hil, huq, hoc, hdq, hlr, hpc, hpq⟩, hP9, hD9⟩ hS (lv_sub hl [0, 1, 2, 3] rfl)
