theorem zy_b95lo_0 : decode cL_law 18 = .ok (.iload_n 3, 1) ∧ decode cL_law 19 = .ok (.aload_n 0, 1) ∧ decode cL_law 20 = .ok (.arraylength, 1) ∧ decode cL_law 21 = .ok (.bipush 6, 2) ∧ decode cL_law 23 = .ok (.isub, 1) ∧ decode cL_law 24 = .ok (.if_icmp .gt 800, 3) ∧ decode cL_law 27 = .ok (.aload_n 0, 1) ∧ decode cL_law 28 = .ok (.iload_n 3, 1) := by decide +kernel
theorem dL_law_18 : decode cL_law 18 = .ok (.iload_n 3, 1) := zy_b95lo_0.1
theorem dL_law_19 : decode cL_law 19 = .ok (.aload_n 0, 1) := zy_b95lo_0.2.1
theorem dL_law_20 : decode cL_law 20 = .ok (.arraylength, 1) := zy_b95lo_0.2.2.1
theorem dL_law_21 : decode cL_law 21 = .ok (.bipush 6, 2) := zy_b95lo_0.2.2.2.1
theorem dL_law_23 : decode cL_law 23 = .ok (.isub, 1) := zy_b95lo_0.2.2.2.2.1
theorem dL_law_24 : decode cL_law 24 = .ok (.if_icmp .gt 800, 3) := zy_b95lo_0.2.2.2.2.2.1
theorem dL_law_27 : decode cL_law 27 = .ok (.aload_n 0, 1) := zy_b95lo_0.2.2.2.2.2.2.1
theorem dL_law_28 : decode cL_law 28 = .ok (.iload_n 3, 1) := zy_b95lo_0.2.2.2.2.2.2.2
theorem zy_b95lo_1 : decode cL_law 29 = .ok (.iaload, 1) ∧ decode cL_law 30 = .ok (.bipush 31, 2) ∧ decode cL_law 32 = .ok (.iand, 1) ∧ decode cL_law 33 = .ok (.tableswitch 785 0 21 #[103, 152, 215, 248, 311, 334, 347, 370, 393, 426, 469, 502, 525, 558, 591, 624, 657, 670, 703, 716, 739, 762], 103) ∧ decode cL_law 824 = .ok (.iconst 1, 1) ∧ decode cL_law 825 = .ok (.ireturn, 1) := by decide +kernel
theorem dL_law_29 : decode cL_law 29 = .ok (.iaload, 1) := zy_b95lo_1.1
theorem dL_law_30 : decode cL_law 30 = .ok (.bipush 31, 2) := zy_b95lo_1.2.1
theorem dL_law_32 : decode cL_law 32 = .ok (.iand, 1) := zy_b95lo_1.2.2.1
theorem dL_law_33 : decode cL_law 33 = .ok (.tableswitch 785 0 21 #[103, 152, 215, 248, 311, 334, 347, 370, 393, 426, 469, 502, 525, 558, 591, 624, 657, 670, 703, 716, 739, 762], 103) := zy_b95lo_1.2.2.2.1
theorem dL_law_824 : decode cL_law 824 = .ok (.iconst 1, 1) := zy_b95lo_1.2.2.2.2.1
theorem dL_law_825 : decode cL_law 825 = .ok (.ireturn, 1) := zy_b95lo_1.2.2.2.2.2
set_option maxHeartbeats 4000000 in
set_option maxRecDepth 100000 in
theorem law_head {p : Program} {e : Env} {s : State} {m : MethodId} {below : List Frame} {meth : Method} {c : Code} (l : Launch) {sb SL : Nat} {xs : Nat → Int32} {dC : Nat → ClassId} {dI : Nat → Nat → Nat} {b0 b1 b2 : Nat} {adK adV : Nat → Nat} (a : Nat → Nat) (b : Nat → Nat) (cH : ClassId) (cF : ClassId) (cI : ClassId) (cB : ClassId) (cZ : ClassId) (fH : Nat → Option Nat) (fF : Nat → Option Nat) (L : List Nat) (K : Nat → Nat) (C0 : lw_At p s m meth c sb SL xs) (hN : zz_N s) (hU : zz_G b0 b1 b2 adK adV (fun q : Nat => s.heap.size ≤ q) s) (hfH : ∀ k, k < 8 → fH k = some (a (2 + k))) (hfF : ∀ k, k < 12 → fF k = some (a (11 + k))) (hH : ∀ k, k < 8 → a (2 + k) ∈ L ∧ K (a (2 + k)) = 4) (hF : ∀ k, k < 12 → a (11 + k) ∈ L ∧ K (a (11 + k)) = 3) (hK : va_K (dC, dI) vwCl [(cH, .object RX4), (cF, .object RX3), (cI, .int), (cB, .byte), (cZ, .boolean)] s) (hdj : zz_dj a) {k : Nat} (hL : SL ≤ 3072) (ih : 6 * k + 6 ≤ SL → ∀ (H : Heap) (locs : List Loc) (ls : Array Slot), zz_J (dC, dI) (fun q : Nat => s.heap.size ≤ q) a b cH cF cI cB cZ fH fF L K (k + 1) H → va_S (fun q : Nat => s.heap.size ≤ q) s.heap H locs → lv_has ls 4 [(3, .int (nI (6 * k + 6))), (2, .ref (b 0)), (1, .ref (a 0)), (0, .ref sb)] → W p l e room_1 s m #[Value.ref sb] below meth c H locs 85 4448 (lw_Z below #[Value.ref sb] s) (F0 m 18 ls [])) (hkb : 6 * k ≤ SL + 6) {H : Heap} {locs : List Loc} {ls : Array Slot} (hJ : zz_J (dC, dI) (fun q : Nat => s.heap.size ≤ q) a b cH cF cI cB cZ fH fF L K k H) (hS : va_S (fun q : Nat => s.heap.size ≤ q) s.heap H locs) (hl : lv_has ls 4 [(3, .int (nI (6 * k))), (2, .ref (b 0)), (1, .ref (a 0)), (0, .ref sb)]) : W p l e room_1 s m #[Value.ref sb] below meth c H locs 85 4448 (lw_Z below #[Value.ref sb] s) (F0 m 18 ls []) := by
  obtain ⟨hx, hb, hr, hml, hown, hts, hX, hbl, hlocks, hgv⟩ := id C0
  have hw : ∀ w ∈ zz_all, w.before #[Value.ref sb] s = true := fun w h => hts w (zz_in_tbl h)
  have hown : s.vm.findClass RL = some m.cls := hown
  have hA : ∀ q : Nat, s.heap.size ≤ q → (fun q : Nat => s.heap.size ≤ q) q := fun _ h => h
  have hbA : ¬ (fun q : Nat => s.heap.size ≤ q) sb := Nat.not_le.mpr hbl
  refine lv_iload_n hx hb dL_law_18 rfl (lv_at hl 0 rfl) ?_
  refine lv_aload_n hx hb dL_law_19 rfl (lv_at hl 3 rfl) ?_
  refine va_slen hx hb hX hbl hbA hS dL_law_20 ?_
  refine zz_seti (nI SL) rfl ?_
  refine lv_bipush (v := 6) hx hb dL_law_21 (by decide) ?_
  refine lv_isub hx hb dL_law_23 ?_
  refine lv_icmp_gt (tgt := 824) hx hb dL_law_24 (by decide) (fun c_1 => ?_) (fun c_1 => ?_)
  · have zc_1 := c_1
    rw [Int32.lt_iff_toInt_lt] at zc_1
    try rw [zz_toInt (6 * k) (by omega)] at zc_1
    try rw [zz_pred6 (c := SL) (by omega)] at zc_1
    refine lv_iconst (v := 1) hx hb dL_law_824 (by decide) ?_
    refine va_forget (fun q hq => hS.2.2 q hq) ?_
    refine W.widen (k := 600000) (n := 7302250) (by decide) (by decide) ?_
    exact lw_ret hx hb hr hlocks dL_law_825
  · have zc_1 := c_1
    rw [Int32.lt_iff_toInt_lt] at zc_1
    try rw [zz_toInt (6 * k) (by omega)] at zc_1
    try rw [zz_pred6 (c := SL) (by omega)] at zc_1
    refine lv_aload_n hx hb dL_law_27 rfl (lv_at hl 3 rfl) ?_
    refine lv_iload_n hx hb dL_law_28 rfl (lv_at hl 0 rfl) ?_
    refine va_sld hx hb hX hbl hbA hS (vp_in_iff.mpr (by rw [zz_toInt (6 * k) (by omega)]; constructor <;> omega)) dL_law_29 ?_
    refine lv_bipush (v := 31) hx hb dL_law_30 (by decide) ?_
    refine lv_iand hx hb dL_law_32 ?_
    by_cases c_2 : ((xs (Int32.toNatClampNeg (nI (6 * k)))) &&& 31) = 0
    · have zc_2 := c_2
      rw [← Int32.toInt_inj] at zc_2
      try rw [show (0 : Int32).toInt = 0 from by decide] at zc_2
      refine lv_tableIn (tgt := 136) hx hb dL_law_33 (by rw [c_2]; decide) (by rw [c_2]; decide) (by rw [c_2]; rfl) (by decide) ?_
      exact lc_house l a b cH cF cI cB cZ fH fF L K C0 hN hU hfH hfF hH hF hK hdj (by omega) hL (ih (by omega)) hJ hS (lv_sub hl [0, 1, 2, 3] rfl)
    by_cases c_3 : ((xs (Int32.toNatClampNeg (nI (6 * k)))) &&& 31) = 1
    · have zc_3 := c_3
      rw [← Int32.toInt_inj] at zc_3
      try rw [show (1 : Int32).toInt = 1 from by decide] at zc_3
      refine lv_tableIn (tgt := 185) hx hb dL_law_33 (by rw [c_3]; decide) (by rw [c_3]; decide) (by rw [c_3]; rfl) (by decide) ?_
      exact lc_field l a b cH cF cI cB cZ fH fF L K C0 hN hU hfH hfF hH hF hK hdj (by omega) hL (ih (by omega)) hJ hS (lv_sub hl [0, 1, 2, 3] rfl)
    by_cases c_4 : ((xs (Int32.toNatClampNeg (nI (6 * k)))) &&& 31) = 2
    · have zc_4 := c_4
      rw [← Int32.toInt_inj] at zc_4
      try rw [show (2 : Int32).toInt = 2 from by decide] at zc_4
      refine lv_tableIn (tgt := 248) hx hb dL_law_33 (by rw [c_4]; decide) (by rw [c_4]; decide) (by rw [c_4]; rfl) (by decide) ?_
      exact lc_loss l a b cH cF cI cB cZ fH fF L K C0 hN hU hfH hfF hH hF hK hdj (by omega) hL (ih (by omega)) hJ hS (lv_sub hl [0, 1, 2, 3] rfl)
    by_cases c_5 : ((xs (Int32.toNatClampNeg (nI (6 * k)))) &&& 31) = 3
    · have zc_5 := c_5
      rw [← Int32.toInt_inj] at zc_5
      try rw [show (3 : Int32).toInt = 3 from by decide] at zc_5
      refine lv_tableIn (tgt := 281) hx hb dL_law_33 (by rw [c_5]; decide) (by rw [c_5]; decide) (by rw [c_5]; rfl) (by decide) ?_
      exact lc_feed l a b cH cF cI cB cZ fH fF L K C0 hN hU hfH hfF hH hF hK hdj (by omega) hL (ih (by omega)) hJ hS (lv_sub hl [0, 1, 2, 3] rfl)
    by_cases c_6 : ((xs (Int32.toNatClampNeg (nI (6 * k)))) &&& 31) = 4
    · have zc_6 := c_6
      rw [← Int32.toInt_inj] at zc_6
      try rw [show (4 : Int32).toInt = 4 from by decide] at zc_6
      refine lv_tableIn (tgt := 344) hx hb dL_law_33 (by rw [c_6]; decide) (by rw [c_6]; decide) (by rw [c_6]; rfl) (by decide) ?_
      exact lc_end l a b cH cF cI cB cZ fH fF L K C0 hN hU hfH hfF hH hF hK hdj (by omega) hL (ih (by omega)) hJ hS (lv_sub hl [0, 1, 2, 3] rfl)
    by_cases c_7 : ((xs (Int32.toNatClampNeg (nI (6 * k)))) &&& 31) = 5
    · have zc_7 := c_7
      rw [← Int32.toInt_inj] at zc_7
      try rw [show (5 : Int32).toInt = 5 from by decide] at zc_7
      refine lv_tableIn (tgt := 367) hx hb dL_law_33 (by rw [c_7]; decide) (by rw [c_7]; decide) (by rw [c_7]; rfl) (by decide) ?_
      exact lc_custom l a b cH cF cI cB cZ fH fF L K C0 hN hU hfH hfF hH hF hK hdj (by omega) hL (ih (by omega)) hJ hS (lv_sub hl [0, 1, 2, 3] rfl)
    by_cases c_8 : ((xs (Int32.toNatClampNeg (nI (6 * k)))) &&& 31) = 6
    · have zc_8 := c_8
      rw [← Int32.toInt_inj] at zc_8
      try rw [show (6 : Int32).toInt = 6 from by decide] at zc_8
      refine lv_tableIn (tgt := 380) hx hb dL_law_33 (by rw [c_8]; decide) (by rw [c_8]; decide) (by rw [c_8]; rfl) (by decide) ?_
      exact lc_fault l a b cH cF cI cB cZ fH fF L K C0 hN hU hfH hfF hH hF hK hdj (by omega) hL (ih (by omega)) hJ hS (lv_sub hl [0, 1, 2, 3] rfl)
    by_cases c_9 : ((xs (Int32.toNatClampNeg (nI (6 * k)))) &&& 31) = 7
    · have zc_9 := c_9
      rw [← Int32.toInt_inj] at zc_9
      try rw [show (7 : Int32).toInt = 7 from by decide] at zc_9
      refine lv_tableIn (tgt := 403) hx hb dL_law_33 (by rw [c_9]; decide) (by rw [c_9]; decide) (by rw [c_9]; rfl) (by decide) ?_
      exact lc_says l a b cH cF cI cB cZ fH fF L K C0 hN hU hfH hfF hH hF hK hdj (by omega) hL (ih (by omega)) hJ hS (lv_sub hl [0, 1, 2, 3] rfl)
    by_cases c_10 : ((xs (Int32.toNatClampNeg (nI (6 * k)))) &&& 31) = 8
    · have zc_10 := c_10
      rw [← Int32.toInt_inj] at zc_10
      try rw [show (8 : Int32).toInt = 8 from by decide] at zc_10
      refine lv_tableIn (tgt := 426) hx hb dL_law_33 (by rw [c_10]; decide) (by rw [c_10]; decide) (by rw [c_10]; rfl) (by decide) ?_
      exact lc_ill l a b cH cF cI cB cZ fH fF L K C0 hN hU hfH hfF hH hF hK hdj (by omega) hL (ih (by omega)) hJ hS (lv_sub hl [0, 1, 2, 3] rfl)
    by_cases c_11 : ((xs (Int32.toNatClampNeg (nI (6 * k)))) &&& 31) = 9
    · have zc_11 := c_11
      rw [← Int32.toInt_inj] at zc_11
      try rw [show (9 : Int32).toInt = 9 from by decide] at zc_11
      refine lv_tableIn (tgt := 459) hx hb dL_law_33 (by rw [c_11]; decide) (by rw [c_11]; decide) (by rw [c_11]; rfl) (by decide) ?_
      exact lc_work l a b cH cF cI cB cZ fH fF L K C0 hN hU hfH hfF hH hF hK hdj (by omega) hL (ih (by omega)) hJ hS (lv_sub hl [0, 1, 2, 3] rfl)
    by_cases c_12 : ((xs (Int32.toNatClampNeg (nI (6 * k)))) &&& 31) = 10
    · have zc_12 := c_12
      rw [← Int32.toInt_inj] at zc_12
      try rw [show (10 : Int32).toInt = 10 from by decide] at zc_12
      refine lv_tableIn (tgt := 502) hx hb dL_law_33 (by rw [c_12]; decide) (by rw [c_12]; decide) (by rw [c_12]; rfl) (by decide) ?_
      exact lc_hire l a b cH cF cI cB cZ fH fF L K C0 hN hU hfH hfF hH hF hK hdj (by omega) hL (ih (by omega)) hJ hS (lv_sub hl [0, 1, 2, 3] rfl)
    by_cases c_13 : ((xs (Int32.toNatClampNeg (nI (6 * k)))) &&& 31) = 11
    · have zc_13 := c_13
      rw [← Int32.toInt_inj] at zc_13
      try rw [show (11 : Int32).toInt = 11 from by decide] at zc_13
      refine lv_tableIn (tgt := 535) hx hb dL_law_33 (by rw [c_13]; decide) (by rw [c_13]; decide) (by rw [c_13]; rfl) (by decide) ?_
      exact lc_days l a b cH cF cI cB cZ fH fF L K C0 hN hU hfH hfF hH hF hK hdj (by omega) hL (ih (by omega)) hJ hS (lv_sub hl [0, 1, 2, 3] rfl)
    by_cases c_14 : ((xs (Int32.toNatClampNeg (nI (6 * k)))) &&& 31) = 12
    · have zc_14 := c_14
      rw [← Int32.toInt_inj] at zc_14
      try rw [show (12 : Int32).toInt = 12 from by decide] at zc_14
      refine lv_tableIn (tgt := 558) hx hb dL_law_33 (by rw [c_14]; decide) (by rw [c_14]; decide) (by rw [c_14]; rfl) (by decide) ?_
      exact lc_houseOf l a b cH cF cI cB cZ fH fF L K C0 hN hU hfH hfF hH hF hK hdj (by omega) hL (ih (by omega)) hJ hS (lv_sub hl [0, 1, 2, 3] rfl)
    by_cases c_15 : ((xs (Int32.toNatClampNeg (nI (6 * k)))) &&& 31) = 13
    · have zc_15 := c_15
      rw [← Int32.toInt_inj] at zc_15
      try rw [show (13 : Int32).toInt = 13 from by decide] at zc_15
      refine lv_tableIn (tgt := 591) hx hb dL_law_33 (by rw [c_15]; decide) (by rw [c_15]; decide) (by rw [c_15]; rfl) (by decide) ?_
      exact lc_fieldOf l a b cH cF cI cB cZ fH fF L K C0 hN hU hfH hfF hH hF hK hdj (by omega) hL (ih (by omega)) hJ hS (lv_sub hl [0, 1, 2, 3] rfl)
    by_cases c_16 : ((xs (Int32.toNatClampNeg (nI (6 * k)))) &&& 31) = 14
    · have zc_16 := c_16
      rw [← Int32.toInt_inj] at zc_16
      try rw [show (14 : Int32).toInt = 14 from by decide] at zc_16
      refine lv_tableIn (tgt := 624) hx hb dL_law_33 (by rw [c_16]; decide) (by rw [c_16]; decide) (by rw [c_16]; rfl) (by decide) ?_
      exact lc_owes l a b cH cF cI cB cZ fH fF L K C0 hN hU hfH hfF hH hF hK hdj (by omega) hL (ih (by omega)) hJ hS (lv_sub hl [0, 1, 2, 3] rfl)
    by_cases c_17 : ((xs (Int32.toNatClampNeg (nI (6 * k)))) &&& 31) = 15
    · have zc_17 := c_17
      rw [← Int32.toInt_inj] at zc_17
      try rw [show (15 : Int32).toInt = 15 from by decide] at zc_17
      refine lv_tableIn (tgt := 657) hx hb dL_law_33 (by rw [c_17]; decide) (by rw [c_17]; decide) (by rw [c_17]; rfl) (by decide) ?_
      exact lc_oldest l a b cH cF cI cB cZ fH fF L K C0 hN hU hfH hfF hH hF hK hdj (by omega) hL (ih (by omega)) hJ hS (lv_sub hl [0, 1, 2, 3] rfl)
    by_cases c_18 : ((xs (Int32.toNatClampNeg (nI (6 * k)))) &&& 31) = 16
    · have zc_18 := c_18
      rw [← Int32.toInt_inj] at zc_18
      try rw [show (16 : Int32).toInt = 16 from by decide] at zc_18
      refine lv_tableIn (tgt := 690) hx hb dL_law_33 (by rw [c_18]; decide) (by rw [c_18]; decide) (by rw [c_18]; rfl) (by decide) ?_
      exact lc_payments l a b cH cF cI cB cZ fH fF L K C0 hN hU hfH hfF hH hF hK hdj (by omega) hL (ih (by omega)) hJ hS (lv_sub hl [0, 1, 2, 3] rfl)
    by_cases c_19 : ((xs (Int32.toNatClampNeg (nI (6 * k)))) &&& 31) = 17
    · have zc_19 := c_19
      rw [← Int32.toInt_inj] at zc_19
      try rw [show (17 : Int32).toInt = 17 from by decide] at zc_19
      refine lv_tableIn (tgt := 703) hx hb dL_law_33 (by rw [c_19]; decide) (by rw [c_19]; decide) (by rw [c_19]; rfl) (by decide) ?_
      exact lc_payment l a b cH cF cI cB cZ fH fF L K C0 hN hU hfH hfF hH hF hK hdj (by omega) hL (ih (by omega)) hJ hS (lv_sub hl [0, 1, 2, 3] rfl)
    by_cases c_20 : ((xs (Int32.toNatClampNeg (nI (6 * k)))) &&& 31) = 18
    · have zc_20 := c_20
      rw [← Int32.toInt_inj] at zc_20
      try rw [show (18 : Int32).toInt = 18 from by decide] at zc_20
      refine lv_tableIn (tgt := 736) hx hb dL_law_33 (by rw [c_20]; decide) (by rw [c_20]; decide) (by rw [c_20]; rfl) (by decide) ?_
      exact lc_even l a b cH cF cI cB cZ fH fF L K C0 hN hU hfH hfF hH hF hK hdj (by omega) hL (ih (by omega)) hJ hS (lv_sub hl [0, 1, 2, 3] rfl)
    by_cases c_21 : ((xs (Int32.toNatClampNeg (nI (6 * k)))) &&& 31) = 19
    · have zc_21 := c_21
      rw [← Int32.toInt_inj] at zc_21
      try rw [show (19 : Int32).toInt = 19 from by decide] at zc_21
      refine lv_tableIn (tgt := 749) hx hb dL_law_33 (by rw [c_21]; decide) (by rw [c_21]; decide) (by rw [c_21]; rfl) (by decide) ?_
      exact lc_plan l a b cH cF cI cB cZ fH fF L K C0 hN hU hfH hfF hH hF hK hdj (by omega) hL (ih (by omega)) hJ hS (lv_sub hl [0, 1, 2, 3] rfl)
    by_cases c_22 : ((xs (Int32.toNatClampNeg (nI (6 * k)))) &&& 31) = 20
    · have zc_22 := c_22
      rw [← Int32.toInt_inj] at zc_22
      try rw [show (20 : Int32).toInt = 20 from by decide] at zc_22
      refine lv_tableIn (tgt := 772) hx hb dL_law_33 (by rw [c_22]; decide) (by rw [c_22]; decide) (by rw [c_22]; rfl) (by decide) ?_
      exact lc_planned l a b cH cF cI cB cZ fH fF L K C0 hN hU hfH hfF hH hF hK hdj (by omega) hL (ih (by omega)) hJ hS (lv_sub hl [0, 1, 2, 3] rfl)
    by_cases c_23 : ((xs (Int32.toNatClampNeg (nI (6 * k)))) &&& 31) = 21
    · have zc_23 := c_23
      rw [← Int32.toInt_inj] at zc_23
      try rw [show (21 : Int32).toInt = 21 from by decide] at zc_23
      refine lv_tableIn (tgt := 795) hx hb dL_law_33 (by rw [c_23]; decide) (by rw [c_23]; decide) (by rw [c_23]; rfl) (by decide) ?_
      exact lc_about l a b cH cF cI cB cZ fH fF L K C0 hN hU hfH hfF hH hF hK hdj (by omega) hL (ih (by omega)) hJ hS (lv_sub hl [0, 1, 2, 3] rfl)
    refine lv_tableOut (tgt := 818) hx hb dL_law_33 (by have := zz_ne c_2; rw [show (0 : Int32).toInt = 0 from by decide] at this; have := zz_ne c_3; rw [show (1 : Int32).toInt = 1 from by decide] at this; have := zz_ne c_4; rw [show (2 : Int32).toInt = 2 from by decide] at this; have := zz_ne c_5; rw [show (3 : Int32).toInt = 3 from by decide] at this; have := zz_ne c_6; rw [show (4 : Int32).toInt = 4 from by decide] at this; have := zz_ne c_7; rw [show (5 : Int32).toInt = 5 from by decide] at this; have := zz_ne c_8; rw [show (6 : Int32).toInt = 6 from by decide] at this; have := zz_ne c_9; rw [show (7 : Int32).toInt = 7 from by decide] at this; have := zz_ne c_10; rw [show (8 : Int32).toInt = 8 from by decide] at this; have := zz_ne c_11; rw [show (9 : Int32).toInt = 9 from by decide] at this; have := zz_ne c_12; rw [show (10 : Int32).toInt = 10 from by decide] at this; have := zz_ne c_13; rw [show (11 : Int32).toInt = 11 from by decide] at this; have := zz_ne c_14; rw [show (12 : Int32).toInt = 12 from by decide] at this; have := zz_ne c_15; rw [show (13 : Int32).toInt = 13 from by decide] at this; have := zz_ne c_16; rw [show (14 : Int32).toInt = 14 from by decide] at this; have := zz_ne c_17; rw [show (15 : Int32).toInt = 15 from by decide] at this; have := zz_ne c_18; rw [show (16 : Int32).toInt = 16 from by decide] at this; have := zz_ne c_19; rw [show (17 : Int32).toInt = 17 from by decide] at this; have := zz_ne c_20; rw [show (18 : Int32).toInt = 18 from by decide] at this; have := zz_ne c_21; rw [show (19 : Int32).toInt = 19 from by decide] at this; have := zz_ne c_22; rw [show (20 : Int32).toInt = 20 from by decide] at this; have := zz_ne c_23; rw [show (21 : Int32).toInt = 21 from by decide] at this; omega) (by decide) ?_
    have zc_2 := c_2
    rw [← Int32.toInt_inj] at zc_2
    try rw [show (0 : Int32).toInt = 0 from by decide] at zc_2
    have zc_3 := c_3
    rw [← Int32.toInt_inj] at zc_3
    try rw [show (1 : Int32).toInt = 1 from by decide] at zc_3
    have zc_4 := c_4
    rw [← Int32.toInt_inj] at zc_4
    try rw [show (2 : Int32).toInt = 2 from by decide] at zc_4
    have zc_5 := c_5
    rw [← Int32.toInt_inj] at zc_5
    try rw [show (3 : Int32).toInt = 3 from by decide] at zc_5
    have zc_6 := c_6
    rw [← Int32.toInt_inj] at zc_6
    try rw [show (4 : Int32).toInt = 4 from by decide] at zc_6
    have zc_7 := c_7
    rw [← Int32.toInt_inj] at zc_7
    try rw [show (5 : Int32).toInt = 5 from by decide] at zc_7
    have zc_8 := c_8
    rw [← Int32.toInt_inj] at zc_8
    try rw [show (6 : Int32).toInt = 6 from by decide] at zc_8
    have zc_9 := c_9
    rw [← Int32.toInt_inj] at zc_9
    try rw [show (7 : Int32).toInt = 7 from by decide] at zc_9
    have zc_10 := c_10
    rw [← Int32.toInt_inj] at zc_10
    try rw [show (8 : Int32).toInt = 8 from by decide] at zc_10
    have zc_11 := c_11
    rw [← Int32.toInt_inj] at zc_11
    try rw [show (9 : Int32).toInt = 9 from by decide] at zc_11
    have zc_12 := c_12
    rw [← Int32.toInt_inj] at zc_12
    try rw [show (10 : Int32).toInt = 10 from by decide] at zc_12
    have zc_13 := c_13
    rw [← Int32.toInt_inj] at zc_13
    try rw [show (11 : Int32).toInt = 11 from by decide] at zc_13
    have zc_14 := c_14
    rw [← Int32.toInt_inj] at zc_14
    try rw [show (12 : Int32).toInt = 12 from by decide] at zc_14
    have zc_15 := c_15
    rw [← Int32.toInt_inj] at zc_15
    try rw [show (13 : Int32).toInt = 13 from by decide] at zc_15
    have zc_16 := c_16
    rw [← Int32.toInt_inj] at zc_16
    try rw [show (14 : Int32).toInt = 14 from by decide] at zc_16
    have zc_17 := c_17
    rw [← Int32.toInt_inj] at zc_17
    try rw [show (15 : Int32).toInt = 15 from by decide] at zc_17
    have zc_18 := c_18
    rw [← Int32.toInt_inj] at zc_18
    try rw [show (16 : Int32).toInt = 16 from by decide] at zc_18
    have zc_19 := c_19
    rw [← Int32.toInt_inj] at zc_19
    try rw [show (17 : Int32).toInt = 17 from by decide] at zc_19
    have zc_20 := c_20
    rw [← Int32.toInt_inj] at zc_20
    try rw [show (18 : Int32).toInt = 18 from by decide] at zc_20
    have zc_21 := c_21
    rw [← Int32.toInt_inj] at zc_21
    try rw [show (19 : Int32).toInt = 19 from by decide] at zc_21
    have zc_22 := c_22
    rw [← Int32.toInt_inj] at zc_22
    try rw [show (20 : Int32).toInt = 20 from by decide] at zc_22
    have zc_23 := c_23
    rw [← Int32.toInt_inj] at zc_23
    try rw [show (21 : Int32).toInt = 21 from by decide] at zc_23
    exact lc_other l a b cH cF cI cB cZ fH fF L K C0 hN hU hfH hfF hH hF hK hdj (by omega) hL (ih (by omega)) hJ hS (lv_sub hl [0, 1, 2, 3] rfl)
theorem law_loop {p : Program} {e : Env} {s : State} {m : MethodId} {below : List Frame} {meth : Method} {c : Code} (l : Launch) {sb SL : Nat} {xs : Nat → Int32} {dC : Nat → ClassId} {dI : Nat → Nat → Nat} {b0 b1 b2 : Nat} {adK adV : Nat → Nat} (a : Nat → Nat) (b : Nat → Nat) (cH : ClassId) (cF : ClassId) (cI : ClassId) (cB : ClassId) (cZ : ClassId) (fH : Nat → Option Nat) (fF : Nat → Option Nat) (L : List Nat) (K : Nat → Nat) (C0 : lw_At p s m meth c sb SL xs) (hN : zz_N s) (hU : zz_G b0 b1 b2 adK adV (fun q : Nat => s.heap.size ≤ q) s) (hfH : ∀ k, k < 8 → fH k = some (a (2 + k))) (hfF : ∀ k, k < 12 → fF k = some (a (11 + k))) (hH : ∀ k, k < 8 → a (2 + k) ∈ L ∧ K (a (2 + k)) = 4) (hF : ∀ k, k < 12 → a (11 + k) ∈ L ∧ K (a (11 + k)) = 3) (hK : va_K (dC, dI) vwCl [(cH, .object RX4), (cF, .object RX3), (cI, .int), (cB, .byte), (cZ, .boolean)] s) (hdj : zz_dj a) (hL : SL ≤ 3072) : ∀ (n k : Nat), SL ≤ 6 * (k + n) → 6 * k ≤ SL + 6 → ∀ (H : Heap) (locs : List Loc) (ls : Array Slot), zz_J (dC, dI) (fun q : Nat => s.heap.size ≤ q) a b cH cF cI cB cZ fH fF L K k H → va_S (fun q : Nat => s.heap.size ≤ q) s.heap H locs → lv_has ls 4 [(3, .int (nI (6 * k))), (2, .ref (b 0)), (1, .ref (a 0)), (0, .ref sb)] → W p l e room_1 s m #[Value.ref sb] below meth c H locs 85 4448 (lw_Z below #[Value.ref sb] s) (F0 m 18 ls []) := by
  intro n
  induction n with
  | zero => intro k h1 h2 H locs ls hJ hS hl; exact law_head l a b cH cF cI cB cZ fH fF L K C0 hN hU hfH hfF hH hF hK hdj hL (fun h => absurd h (by omega)) h2 hJ hS hl
  | succ n ih => intro k h1 h2 H locs ls hJ hS hl; exact law_head l a b cH cF cI cB cZ fH fF L K C0 hN hU hfH hfF hH hF hK hdj hL (fun h => ih (k + 1) (by omega) (by omega)) h2 hJ hS hl
