def RJ0 : String := "java/lang/String"
abbrev cJ0_length_8abf5 : ByteArray := prog_12_method_54_code
def yJ0_length_8abf5 : MethodName := ⟨RJ0, "length", "()I"⟩
abbrev cJ0_charAt_5068e : ByteArray := prog_12_method_56_code
def yJ0_charAt_5068e : MethodName := ⟨RJ0, "charAt", "(I)C"⟩
abbrev cJ0_coder_7d493 : ByteArray := prog_12_method_152_code
def yJ0_coder_7d493 : MethodName := ⟨RJ0, "coder", "()B"⟩
abbrev cJ0_isLatin1_aae02 : ByteArray := prog_12_method_154_code
def yJ0_isLatin1_aae02 : MethodName := ⟨RJ0, "isLatin1", "()Z"⟩
abbrev cJ0_checkIndex_df160 : ByteArray := prog_12_method_155_code
def yJ0_checkIndex_df160 : MethodName := ⟨RJ0, "checkIndex", "(II)V"⟩
def RJ1 : String := "java/lang/StringLatin1"
abbrev cJ1_charAt_3b067 : ByteArray := prog_13_method_2_code
def yJ1_charAt_3b067 : MethodName := ⟨RJ1, "charAt", "([BI)C"⟩
def RJ3 : String := "jdk/internal/util/Preconditions"
abbrev cJ3_checkIndex_8e157 : ByteArray := prog_16_method_11_code
def yJ3_checkIndex_8e157 : MethodName := ⟨RJ3, "checkIndex", "(IILjava/util/function/BiFunction;)I"⟩
def zz_len7 : List Nat := [5, 4, 5, 5, 5, 4, 4]
def zz_byt7 : List (List Int32) := [[112, 108, 97, 110, 116], [114, 101, 97, 112], [99, 97, 114, 114, 121], [108, 97, 112, 115, 101], [103, 114, 97, 99, 101], [102, 111, 111, 100], [119, 97, 103, 101]]
def zz_tx7 : List String := ["plant", "reap", "carry", "lapse", "grace", "food", "wage"]
def zz_lo7 : Nat → Int32 := fun k => if k = 3 then 1 else 0
def zz_hi7 : Nat → Int32 := fun k => if k < 3 then 99 else if k < 5 then 400 else if k = 5 then 99 else 999
theorem zz_len5 : ∀ i : Nat, i < 7 → zz_len7.getD i 0 ≤ 5 := by decide
def zz_G (b0 b1 b2 : Nat) (adK adV : Nat → Nat) (A : Nat → Prop) (U : State) : Prop := zz_Un b0 A U ∧ va_Z RX7 "LEAST_TOLD" "[I" (.ref b1) A U U.heap ∧ va_T .int b1 7 (fun j => .int (zz_lo7 j)) A U U.heap ∧ va_Z RX7 "MOST_TOLD" "[I" (.ref b2) A U U.heap ∧ va_T .int b2 7 (fun j => .int (zz_hi7 j)) A U U.heap ∧ va_Z "java/lang/String" "COMPACT_STRINGS" "Z" (.int 1) A U U.heap ∧ va_Zq "jdk/internal/util/Preconditions" "SIOOBE_FORMATTER" "Ljava/util/function/BiFunction;" A U U.heap ∧ vk_S 7 zz_len7 zz_byt7 adK adV A U U.heap ∧ ∀ i : Nat, i < 7 → vk_R RX0 (100 + 2 * i) (zz_tx7.getD i "") (adK i) U
def zz_BG (D : va_G) (sz b0 b1 b2 : Nat) (adK adV : Nat → Nat) (ws : va_W) (tys : List (ClassId × FieldType)) (wl : va_W) (U : State) : Prop := zz_B D sz ws tys U ∧ zz_G b0 b1 b2 adK adV (va_A wl sz) U
theorem zz_blindG {av : List Value} {D : va_G} {sz b0 b1 b2 : Nat} {adK adV : Nat → Nat} {ws wl : va_W} {tys : List (ClassId × FieldType)} : FrameBlind (va_Pc av (zz_BG D sz b0 b1 b2 adK adV ws tys wl)) := by
  intro a U g mk q
  obtain ⟨q0, ⟨q1, qP, qK, qD, qN⟩, ⟨z, x, lt, na⟩, g1, g2, g3, g4, g5, g6, g7, g8⟩ := q
  have al : U.vm.Alike (U.calling g mk a).vm := Vm.Alike.refl U.vm
  exact ⟨q0, ⟨q1, qP, va_K.moved (u := U) (U := U.calling g mk a) al qK, qD, qN.call⟩, ⟨va_Z.moved (u := U) (U := U.calling g mk a) al z, va_X.moved (u := U) (U := U.calling g mk a) al x, lt, na⟩, va_Z.moved (u := U) (U := U.calling g mk a) al g1, va_T.moved (u := U) (U := U.calling g mk a) al g2, va_Z.moved (u := U) (U := U.calling g mk a) al g3, va_T.moved (u := U) (U := U.calling g mk a) al g4, va_Z.moved (u := U) (U := U.calling g mk a) al g5, va_Zq.moved (u := U) (U := U.calling g mk a) al g6, vk_S.moved (u := U) (U := U.calling g mk a) al g7, fun i hi => vk_R.same (u := U) (U := U.calling g mk a) rfl (g8 i hi)⟩
theorem zz_preG {s : State} {H : Heap} {D : va_G} {b0 b1 b2 : Nat} {adK adV : Nat → Nat} {ws wl : va_W} {tys : List (ClassId × FieldType)} {av : List Value} {A A0 : Nat → Prop} {locs : List Loc} (hP : va_P D vwCl ws H) (hK : va_K D vwCl tys s) (hD : va_D A0 ws) (hN : zz_N s) (hU0 : zz_G b0 b1 b2 adK adV A s) (hS : va_S A s.heap H locs) (hF : ∀ q, va_A wl H.size q → A q) : ∀ U : State, U.heap = H → s.WarmedH U.vm → va_Pc av (zz_BG D H.size b0 b1 b2 adK adV ws tys wl) av.toArray U := by
  intro U hU hW
  obtain ⟨⟨z, x, lt, na⟩, g1, g2, g3, g4, g5, g6, g7, g8⟩ := hU0
  refine ⟨rfl, ⟨by rw [hU], by rw [hU]; exact hP, va_K.moved hW.alike hK, hD.weaken (fun _ _ _ _ => trivial), hN.warm hW⟩, ⟨?_, ?_, ?_, fun h => na (hF _ h)⟩, ?_, ?_, ?_, ?_, ?_, ?_, ?_, fun i hi => vk_R.warm hW (g8 i hi)⟩
  · rw [hU]; exact ((z.kept hS.2.1).moved hW.alike).narrow hF
  · rw [hU]; exact (x.kept (hS.2.1 b0 lt na)).moved hW.alike
  · rw [hU]; exact Nat.lt_of_lt_of_le lt hS.1
  · rw [hU]; exact ((g1.kept hS.2.1).moved hW.alike).narrow hF
  · rw [hU]; exact ((g2.kept hS.2.1).moved hW.alike).narrow hF
  · rw [hU]; exact ((g3.kept hS.2.1).moved hW.alike).narrow hF
  · rw [hU]; exact ((g4.kept hS.2.1).moved hW.alike).narrow hF
  · rw [hU]; exact ((g5.kept hS.2.1).moved hW.alike).narrow hF
  · rw [hU]; exact ((g6.kept hS.2.1).moved hW.alike).narrow hF
  · rw [hU]; exact ((g7.kept hS.2.1).moved hW.alike).narrow hF
