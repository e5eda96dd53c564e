def zz_all : List Cond := lw_tbl.filter goodWord
theorem zz_tbl {w : Cond} (h : w ∈ lw_tbl) (hg : goodWord w = true) : w ∈ zz_all := List.mem_filter.mpr ⟨h, hg⟩
theorem zz_in_tbl {w : Cond} (h : w ∈ zz_all) : w ∈ lw_tbl := (List.mem_filter.mp h).1
theorem zz_t1 {w : Cond} (i : Nat) (h : tables_1_1[i]? = some w) : w ∈ lw_tbl := List.mem_append_right _ (show w ∈ tables_1 from List.mem_append_left _ (List.mem_of_getElem? h))
theorem zz_m1 {w : Cond} (i : Nat) (h : tables_1_1[i]? = some w) (hg : goodWord w = true) : w ∈ zz_all := zz_tbl (zz_t1 i h) hg
theorem zz_t2 {w : Cond} (i : Nat) (h : tables_1_2[i]? = some w) : w ∈ lw_tbl := List.mem_append_right _ (show w ∈ tables_1 from List.mem_append_right _ (List.mem_append_left _ (List.mem_of_getElem? h)))
theorem zz_m2 {w : Cond} (i : Nat) (h : tables_1_2[i]? = some w) (hg : goodWord w = true) : w ∈ zz_all := zz_tbl (zz_t2 i h) hg
theorem zz_t3 {w : Cond} (i : Nat) (h : tables_1_3[i]? = some w) : w ∈ lw_tbl := List.mem_append_right _ (show w ∈ tables_1 from List.mem_append_right _ (List.mem_append_right _ (List.mem_append_left _ (List.mem_of_getElem? h))))
theorem zz_m3 {w : Cond} (i : Nat) (h : tables_1_3[i]? = some w) (hg : goodWord w = true) : w ∈ zz_all := zz_tbl (zz_t3 i h) hg
theorem zz_t4 {w : Cond} (i : Nat) (h : tables_1_4[i]? = some w) : w ∈ lw_tbl := List.mem_append_right _ (show w ∈ tables_1 from List.mem_append_right _ (List.mem_append_right _ (List.mem_append_right _ (List.mem_append_left _ (List.mem_of_getElem? h)))))
theorem zz_m4 {w : Cond} (i : Nat) (h : tables_1_4[i]? = some w) (hg : goodWord w = true) : w ∈ zz_all := zz_tbl (zz_t4 i h) hg
theorem zz_t5 {w : Cond} (i : Nat) (h : tables_1_5[i]? = some w) : w ∈ lw_tbl := List.mem_append_right _ (show w ∈ tables_1 from List.mem_append_right _ (List.mem_append_right _ (List.mem_append_right _ (List.mem_append_right _ (List.mem_of_getElem? h)))))
theorem zz_m5 {w : Cond} (i : Nat) (h : tables_1_5[i]? = some w) (hg : goodWord w = true) : w ∈ zz_all := zz_tbl (zz_t5 i h) hg
theorem zz_ms {w : Cond} (i : Nat) (h : (k2_sels lw_privs)[i]? = some w) (hg : goodWord w = true) : w ∈ zz_all := zz_tbl (List.mem_append_left _ (List.mem_of_getElem? h)) hg
abbrev zz_w (y : MethodName) (b : ByteArray) (n : Nat) (r : Option FieldType) : List Cond := Cond.code y b n r :: zz_all
theorem zz_good {y : MethodName} {b : ByteArray} {n : Nat} {r : Option FieldType} (h : Cond.code y b n r ∈ zz_all) : GoodIn zz_all (zz_w y b n r) := by
  intro w hw
  have hm : w ∈ zz_all := by
    rcases List.mem_cons.mp hw with h2 | h2
    · rw [h2]; exact h
    · exact h2
  exact ⟨hm, good_of_word (List.mem_filter.mp hm).2⟩
theorem zz_lay0_0 : u_lay RX0 TX0 0 ∈ zz_all := zz_m1 136 rfl rfl
theorem zz_lay0_1 : u_lay RX0 TX0 1 ∈ zz_all := zz_m1 138 rfl rfl
theorem zz_lay0_2 : u_lay RX0 TX0 2 ∈ zz_all := zz_m1 140 rfl rfl
theorem zz_lay0_3 : u_lay RX0 TX0 3 ∈ zz_all := zz_m1 142 rfl rfl
theorem zz_lay0_4 : u_lay RX0 TX0 4 ∈ zz_all := zz_m1 144 rfl rfl
theorem zz_lay0_5 : u_lay RX0 TX0 5 ∈ zz_all := zz_m1 146 rfl rfl
theorem zz_lay0_6 : u_lay RX0 TX0 6 ∈ zz_all := zz_m1 148 rfl rfl
theorem zz_lay0_7 : u_lay RX0 TX0 7 ∈ zz_all := zz_m1 150 rfl rfl
theorem zz_inX0 : ∀ w ∈ u_ws RX0 TX0 8, w ∈ zz_all := by
  intro w h
  obtain ⟨k, hk, rfl⟩ := List.mem_map.mp h
  have hk := List.mem_range.mp hk
  match k, hk with
  | 0, _ => exact zz_lay0_0
  | 1, _ => exact zz_lay0_1
  | 2, _ => exact zz_lay0_2
  | 3, _ => exact zz_lay0_3
  | 4, _ => exact zz_lay0_4
  | 5, _ => exact zz_lay0_5
  | 6, _ => exact zz_lay0_6
  | 7, _ => exact zz_lay0_7
  | k + 8, hk => exact absurd hk (by omega)
theorem zz_lay1_0 : u_lay RX1 TX1 0 ∈ zz_all := zz_m1 172 rfl rfl
theorem zz_lay1_1 : u_lay RX1 TX1 1 ∈ zz_all := zz_m1 174 rfl rfl
theorem zz_lay1_2 : u_lay RX1 TX1 2 ∈ zz_all := zz_m1 176 rfl rfl
theorem zz_lay1_3 : u_lay RX1 TX1 3 ∈ zz_all := zz_m1 178 rfl rfl
theorem zz_lay1_4 : u_lay RX1 TX1 4 ∈ zz_all := zz_m1 180 rfl rfl
theorem zz_inX1 : ∀ w ∈ u_ws RX1 TX1 5, w ∈ zz_all := by
  intro w h
  obtain ⟨k, hk, rfl⟩ := List.mem_map.mp h
  have hk := List.mem_range.mp hk
  match k, hk with
  | 0, _ => exact zz_lay1_0
  | 1, _ => exact zz_lay1_1
  | 2, _ => exact zz_lay1_2
  | 3, _ => exact zz_lay1_3
  | 4, _ => exact zz_lay1_4
  | k + 5, hk => exact absurd hk (by omega)
theorem zz_lay2_0 : u_lay RX2 TX2 0 ∈ zz_all := zz_m1 202 rfl rfl
theorem zz_lay2_1 : u_lay RX2 TX2 1 ∈ zz_all := zz_m1 204 rfl rfl
theorem zz_lay2_2 : u_lay RX2 TX2 2 ∈ zz_all := zz_m1 206 rfl rfl
theorem zz_lay2_3 : u_lay RX2 TX2 3 ∈ zz_all := zz_m1 208 rfl rfl
theorem zz_lay2_4 : u_lay RX2 TX2 4 ∈ zz_all := zz_m1 210 rfl rfl
theorem zz_lay2_5 : u_lay RX2 TX2 5 ∈ zz_all := zz_m1 212 rfl rfl
theorem zz_lay2_6 : u_lay RX2 TX2 6 ∈ zz_all := zz_m1 214 rfl rfl
theorem zz_lay2_7 : u_lay RX2 TX2 7 ∈ zz_all := zz_m1 216 rfl rfl
theorem zz_lay2_8 : u_lay RX2 TX2 8 ∈ zz_all := zz_m1 218 rfl rfl
theorem zz_inX2 : ∀ w ∈ u_ws RX2 TX2 9, w ∈ zz_all := by
  intro w h
  obtain ⟨k, hk, rfl⟩ := List.mem_map.mp h
  have hk := List.mem_range.mp hk
  match k, hk with
  | 0, _ => exact zz_lay2_0
  | 1, _ => exact zz_lay2_1
  | 2, _ => exact zz_lay2_2
  | 3, _ => exact zz_lay2_3
  | 4, _ => exact zz_lay2_4
  | 5, _ => exact zz_lay2_5
  | 6, _ => exact zz_lay2_6
  | 7, _ => exact zz_lay2_7
  | 8, _ => exact zz_lay2_8
  | k + 9, hk => exact absurd hk (by omega)
theorem zz_lay3_0 : u_lay RX3 TX3 0 ∈ zz_all := zz_m1 83 rfl rfl
theorem zz_lay3_1 : u_lay RX3 TX3 1 ∈ zz_all := zz_m1 85 rfl rfl
theorem zz_lay3_2 : u_lay RX3 TX3 2 ∈ zz_all := zz_m1 87 rfl rfl
theorem zz_lay3_3 : u_lay RX3 TX3 3 ∈ zz_all := zz_m1 89 rfl rfl
theorem zz_lay3_4 : u_lay RX3 TX3 4 ∈ zz_all := zz_m1 91 rfl rfl
theorem zz_lay3_5 : u_lay RX3 TX3 5 ∈ zz_all := zz_m1 93 rfl rfl
theorem zz_lay3_6 : u_lay RX3 TX3 6 ∈ zz_all := zz_m1 95 rfl rfl
theorem zz_inX3 : ∀ w ∈ u_ws RX3 TX3 7, w ∈ zz_all := by
  intro w h
  obtain ⟨k, hk, rfl⟩ := List.mem_map.mp h
  have hk := List.mem_range.mp hk
  match k, hk with
  | 0, _ => exact zz_lay3_0
  | 1, _ => exact zz_lay3_1
  | 2, _ => exact zz_lay3_2
  | 3, _ => exact zz_lay3_3
  | 4, _ => exact zz_lay3_4
  | 5, _ => exact zz_lay3_5
  | 6, _ => exact zz_lay3_6
  | k + 7, hk => exact absurd hk (by omega)
theorem zz_lay4_0 : u_lay RX4 TX4 0 ∈ zz_all := zz_m1 43 rfl rfl
theorem zz_lay4_1 : u_lay RX4 TX4 1 ∈ zz_all := zz_m1 45 rfl rfl
theorem zz_lay4_2 : u_lay RX4 TX4 2 ∈ zz_all := zz_m1 47 rfl rfl
theorem zz_lay4_3 : u_lay RX4 TX4 3 ∈ zz_all := zz_m1 49 rfl rfl
theorem zz_lay4_4 : u_lay RX4 TX4 4 ∈ zz_all := zz_m1 51 rfl rfl
theorem zz_lay4_5 : u_lay RX4 TX4 5 ∈ zz_all := zz_m1 53 rfl rfl
theorem zz_lay4_6 : u_lay RX4 TX4 6 ∈ zz_all := zz_m1 55 rfl rfl
theorem zz_lay4_7 : u_lay RX4 TX4 7 ∈ zz_all := zz_m1 57 rfl rfl
theorem zz_lay4_8 : u_lay RX4 TX4 8 ∈ zz_all := zz_m1 59 rfl rfl
theorem zz_inX4 : ∀ w ∈ u_ws RX4 TX4 9, w ∈ zz_all := by
  intro w h
  obtain ⟨k, hk, rfl⟩ := List.mem_map.mp h
  have hk := List.mem_range.mp hk
  match k, hk with
  | 0, _ => exact zz_lay4_0
  | 1, _ => exact zz_lay4_1
  | 2, _ => exact zz_lay4_2
  | 3, _ => exact zz_lay4_3
  | 4, _ => exact zz_lay4_4
  | 5, _ => exact zz_lay4_5
  | 6, _ => exact zz_lay4_6
  | 7, _ => exact zz_lay4_7
  | 8, _ => exact zz_lay4_8
  | k + 9, hk => exact absurd hk (by omega)
theorem zz_lay5_0 : u_lay RX5 TX5 0 ∈ zz_all := zz_m2 1 rfl rfl
theorem zz_lay5_1 : u_lay RX5 TX5 1 ∈ zz_all := zz_m2 3 rfl rfl
theorem zz_lay5_2 : u_lay RX5 TX5 2 ∈ zz_all := zz_m2 5 rfl rfl
theorem zz_lay5_3 : u_lay RX5 TX5 3 ∈ zz_all := zz_m2 7 rfl rfl
theorem zz_lay5_4 : u_lay RX5 TX5 4 ∈ zz_all := zz_m2 9 rfl rfl
theorem zz_lay5_5 : u_lay RX5 TX5 5 ∈ zz_all := zz_m2 11 rfl rfl
theorem zz_lay5_6 : u_lay RX5 TX5 6 ∈ zz_all := zz_m2 13 rfl rfl
theorem zz_lay5_7 : u_lay RX5 TX5 7 ∈ zz_all := zz_m2 15 rfl rfl
theorem zz_lay5_8 : u_lay RX5 TX5 8 ∈ zz_all := zz_m2 17 rfl rfl
theorem zz_lay5_9 : u_lay RX5 TX5 9 ∈ zz_all := zz_m2 19 rfl rfl
theorem zz_lay5_10 : u_lay RX5 TX5 10 ∈ zz_all := zz_m2 21 rfl rfl
theorem zz_lay5_11 : u_lay RX5 TX5 11 ∈ zz_all := zz_m2 23 rfl rfl
theorem zz_inX5 : ∀ w ∈ u_ws RX5 TX5 12, w ∈ zz_all := by
  intro w h
  obtain ⟨k, hk, rfl⟩ := List.mem_map.mp h
  have hk := List.mem_range.mp hk
  match k, hk with
  | 0, _ => exact zz_lay5_0
  | 1, _ => exact zz_lay5_1
  | 2, _ => exact zz_lay5_2
  | 3, _ => exact zz_lay5_3
  | 4, _ => exact zz_lay5_4
  | 5, _ => exact zz_lay5_5
  | 6, _ => exact zz_lay5_6
  | 7, _ => exact zz_lay5_7
  | 8, _ => exact zz_lay5_8
  | 9, _ => exact zz_lay5_9
  | 10, _ => exact zz_lay5_10
  | 11, _ => exact zz_lay5_11
  | k + 12, hk => exact absurd hk (by omega)
theorem zz_lay6_0 : u_lay RX6 TX6 0 ∈ zz_all := zz_m1 108 rfl rfl
theorem zz_lay6_1 : u_lay RX6 TX6 1 ∈ zz_all := zz_m1 110 rfl rfl
theorem zz_inX6 : ∀ w ∈ u_ws RX6 TX6 2, w ∈ zz_all := by
  intro w h
  obtain ⟨k, hk, rfl⟩ := List.mem_map.mp h
  have hk := List.mem_range.mp hk
  match k, hk with
  | 0, _ => exact zz_lay6_0
  | 1, _ => exact zz_lay6_1
  | k + 2, hk => exact absurd hk (by omega)
theorem zz_lay7_0 : u_lay RX7 TX7 0 ∈ zz_all := zz_m2 38 rfl rfl
theorem zz_lay7_1 : u_lay RX7 TX7 1 ∈ zz_all := zz_m2 40 rfl rfl
theorem zz_lay7_2 : u_lay RX7 TX7 2 ∈ zz_all := zz_m2 42 rfl rfl
theorem zz_lay7_3 : u_lay RX7 TX7 3 ∈ zz_all := zz_m2 44 rfl rfl
theorem zz_lay7_4 : u_lay RX7 TX7 4 ∈ zz_all := zz_m2 46 rfl rfl
theorem zz_lay7_5 : u_lay RX7 TX7 5 ∈ zz_all := zz_m2 48 rfl rfl
theorem zz_lay7_6 : u_lay RX7 TX7 6 ∈ zz_all := zz_m2 50 rfl rfl
theorem zz_lay7_7 : u_lay RX7 TX7 7 ∈ zz_all := zz_m2 52 rfl rfl
theorem zz_lay7_8 : u_lay RX7 TX7 8 ∈ zz_all := zz_m2 54 rfl rfl
theorem zz_lay7_9 : u_lay RX7 TX7 9 ∈ zz_all := zz_m2 56 rfl rfl
theorem zz_lay7_10 : u_lay RX7 TX7 10 ∈ zz_all := zz_m2 58 rfl rfl
theorem zz_lay7_11 : u_lay RX7 TX7 11 ∈ zz_all := zz_m2 60 rfl rfl
theorem zz_inX7 : ∀ w ∈ u_ws RX7 TX7 12, w ∈ zz_all := by
  intro w h
  obtain ⟨k, hk, rfl⟩ := List.mem_map.mp h
  have hk := List.mem_range.mp hk
  match k, hk with
  | 0, _ => exact zz_lay7_0
  | 1, _ => exact zz_lay7_1
  | 2, _ => exact zz_lay7_2
  | 3, _ => exact zz_lay7_3
  | 4, _ => exact zz_lay7_4
  | 5, _ => exact zz_lay7_5
  | 6, _ => exact zz_lay7_6
  | 7, _ => exact zz_lay7_7
  | 8, _ => exact zz_lay7_8
  | 9, _ => exact zz_lay7_9
  | 10, _ => exact zz_lay7_10
  | 11, _ => exact zz_lay7_11
  | k + 12, hk => exact absurd hk (by omega)
theorem zz_lay8_0 : u_lay RX8 TX8 0 ∈ zz_all := zz_m3 214 rfl rfl
theorem zz_lay8_1 : u_lay RX8 TX8 1 ∈ zz_all := zz_m3 216 rfl rfl
theorem zz_lay8_2 : u_lay RX8 TX8 2 ∈ zz_all := zz_m3 218 rfl rfl
theorem zz_lay8_3 : u_lay RX8 TX8 3 ∈ zz_all := zz_m3 220 rfl rfl
theorem zz_lay8_4 : u_lay RX8 TX8 4 ∈ zz_all := zz_m3 222 rfl rfl
theorem zz_lay8_5 : u_lay RX8 TX8 5 ∈ zz_all := zz_m3 224 rfl rfl
theorem zz_lay8_6 : u_lay RX8 TX8 6 ∈ zz_all := zz_m3 226 rfl rfl
theorem zz_lay8_7 : u_lay RX8 TX8 7 ∈ zz_all := zz_m3 228 rfl rfl
theorem zz_lay8_8 : u_lay RX8 TX8 8 ∈ zz_all := zz_m3 230 rfl rfl
theorem zz_lay8_9 : u_lay RX8 TX8 9 ∈ zz_all := zz_m3 232 rfl rfl
theorem zz_lay8_10 : u_lay RX8 TX8 10 ∈ zz_all := zz_m3 234 rfl rfl
theorem zz_lay8_11 : u_lay RX8 TX8 11 ∈ zz_all := zz_m3 236 rfl rfl
theorem zz_lay8_12 : u_lay RX8 TX8 12 ∈ zz_all := zz_m3 238 rfl rfl
theorem zz_lay8_13 : u_lay RX8 TX8 13 ∈ zz_all := zz_m4 0 rfl rfl
theorem zz_lay8_14 : u_lay RX8 TX8 14 ∈ zz_all := zz_m4 2 rfl rfl
theorem zz_lay8_15 : u_lay RX8 TX8 15 ∈ zz_all := zz_m4 4 rfl rfl
theorem zz_lay8_16 : u_lay RX8 TX8 16 ∈ zz_all := zz_m4 6 rfl rfl
theorem zz_lay8_17 : u_lay RX8 TX8 17 ∈ zz_all := zz_m4 8 rfl rfl
theorem zz_lay8_18 : u_lay RX8 TX8 18 ∈ zz_all := zz_m4 10 rfl rfl
theorem zz_lay8_19 : u_lay RX8 TX8 19 ∈ zz_all := zz_m4 12 rfl rfl
theorem zz_lay8_20 : u_lay RX8 TX8 20 ∈ zz_all := zz_m4 14 rfl rfl
theorem zz_lay8_21 : u_lay RX8 TX8 21 ∈ zz_all := zz_m4 16 rfl rfl
theorem zz_lay8_22 : u_lay RX8 TX8 22 ∈ zz_all := zz_m4 18 rfl rfl
theorem zz_lay8_23 : u_lay RX8 TX8 23 ∈ zz_all := zz_m4 20 rfl rfl
theorem zz_lay8_24 : u_lay RX8 TX8 24 ∈ zz_all := zz_m4 22 rfl rfl
theorem zz_lay8_25 : u_lay RX8 TX8 25 ∈ zz_all := zz_m4 24 rfl rfl
theorem zz_lay8_26 : u_lay RX8 TX8 26 ∈ zz_all := zz_m4 26 rfl rfl
theorem zz_lay8_27 : u_lay RX8 TX8 27 ∈ zz_all := zz_m4 28 rfl rfl
theorem zz_lay8_28 : u_lay RX8 TX8 28 ∈ zz_all := zz_m4 30 rfl rfl
theorem zz_lay8_29 : u_lay RX8 TX8 29 ∈ zz_all := zz_m4 32 rfl rfl
theorem zz_lay8_30 : u_lay RX8 TX8 30 ∈ zz_all := zz_m4 34 rfl rfl
theorem zz_lay8_31 : u_lay RX8 TX8 31 ∈ zz_all := zz_m4 36 rfl rfl
theorem zz_lay8_32 : u_lay RX8 TX8 32 ∈ zz_all := zz_m4 38 rfl rfl
theorem zz_lay8_33 : u_lay RX8 TX8 33 ∈ zz_all := zz_m4 40 rfl rfl
theorem zz_lay8_34 : u_lay RX8 TX8 34 ∈ zz_all := zz_m4 42 rfl rfl
theorem zz_lay8_35 : u_lay RX8 TX8 35 ∈ zz_all := zz_m4 44 rfl rfl
theorem zz_lay8_36 : u_lay RX8 TX8 36 ∈ zz_all := zz_m4 46 rfl rfl
theorem zz_lay8_37 : u_lay RX8 TX8 37 ∈ zz_all := zz_m4 48 rfl rfl
theorem zz_lay8_38 : u_lay RX8 TX8 38 ∈ zz_all := zz_m4 50 rfl rfl
theorem zz_lay8_39 : u_lay RX8 TX8 39 ∈ zz_all := zz_m4 52 rfl rfl
theorem zz_lay8_40 : u_lay RX8 TX8 40 ∈ zz_all := zz_m4 54 rfl rfl
theorem zz_lay8_41 : u_lay RX8 TX8 41 ∈ zz_all := zz_m4 56 rfl rfl
theorem zz_lay8_42 : u_lay RX8 TX8 42 ∈ zz_all := zz_m4 58 rfl rfl
theorem zz_lay8_43 : u_lay RX8 TX8 43 ∈ zz_all := zz_m4 60 rfl rfl
theorem zz_lay8_44 : u_lay RX8 TX8 44 ∈ zz_all := zz_m4 62 rfl rfl
theorem zz_lay8_45 : u_lay RX8 TX8 45 ∈ zz_all := zz_m4 64 rfl rfl
theorem zz_lay8_46 : u_lay RX8 TX8 46 ∈ zz_all := zz_m4 66 rfl rfl
theorem zz_lay8_47 : u_lay RX8 TX8 47 ∈ zz_all := zz_m4 68 rfl rfl
theorem zz_lay8_48 : u_lay RX8 TX8 48 ∈ zz_all := zz_m4 70 rfl rfl
theorem zz_inX8 : ∀ w ∈ u_ws RX8 TX8 49, w ∈ zz_all := by
  intro w h
  obtain ⟨k, hk, rfl⟩ := List.mem_map.mp h
  have hk := List.mem_range.mp hk
  match k, hk with
  | 0, _ => exact zz_lay8_0
  | 1, _ => exact zz_lay8_1
  | 2, _ => exact zz_lay8_2
  | 3, _ => exact zz_lay8_3
  | 4, _ => exact zz_lay8_4
  | 5, _ => exact zz_lay8_5
  | 6, _ => exact zz_lay8_6
  | 7, _ => exact zz_lay8_7
  | 8, _ => exact zz_lay8_8
  | 9, _ => exact zz_lay8_9
  | 10, _ => exact zz_lay8_10
  | 11, _ => exact zz_lay8_11
  | 12, _ => exact zz_lay8_12
  | 13, _ => exact zz_lay8_13
  | 14, _ => exact zz_lay8_14
  | 15, _ => exact zz_lay8_15
  | 16, _ => exact zz_lay8_16
  | 17, _ => exact zz_lay8_17
  | 18, _ => exact zz_lay8_18
  | 19, _ => exact zz_lay8_19
  | 20, _ => exact zz_lay8_20
  | 21, _ => exact zz_lay8_21
  | 22, _ => exact zz_lay8_22
  | 23, _ => exact zz_lay8_23
  | 24, _ => exact zz_lay8_24
  | 25, _ => exact zz_lay8_25
  | 26, _ => exact zz_lay8_26
  | 27, _ => exact zz_lay8_27
  | 28, _ => exact zz_lay8_28
  | 29, _ => exact zz_lay8_29
  | 30, _ => exact zz_lay8_30
  | 31, _ => exact zz_lay8_31
  | 32, _ => exact zz_lay8_32
  | 33, _ => exact zz_lay8_33
  | 34, _ => exact zz_lay8_34
  | 35, _ => exact zz_lay8_35
  | 36, _ => exact zz_lay8_36
  | 37, _ => exact zz_lay8_37
  | 38, _ => exact zz_lay8_38
  | 39, _ => exact zz_lay8_39
  | 40, _ => exact zz_lay8_40
  | 41, _ => exact zz_lay8_41
  | 42, _ => exact zz_lay8_42
  | 43, _ => exact zz_lay8_43
  | 44, _ => exact zz_lay8_44
  | 45, _ => exact zz_lay8_45
  | 46, _ => exact zz_lay8_46
  | 47, _ => exact zz_lay8_47
  | 48, _ => exact zz_lay8_48
  | k + 49, hk => exact absurd hk (by omega)
def zz_nest : List Cond := [Cond.methodLinkNest RX7 15 yX4_init "HandsReturned", Cond.fieldLinkNest RX7 66 "HandsReturned$House" "hands" "I" "HandsReturned", Cond.fieldLinkNest RX7 69 "HandsReturned$House" "widow" "Z" "HandsReturned", Cond.fieldLinkNest RX7 119 "HandsReturned$House" "daysIll" "I" "HandsReturned", Cond.fieldLinkNest RX7 140 "HandsReturned$House" "busy" "I" "HandsReturned", Cond.fieldLinkNest RX7 165 "HandsReturned$House" "foodDue" "I" "HandsReturned", Cond.fieldLinkNest RX7 168 "HandsReturned$House" "foodOwed" "I" "HandsReturned", Cond.fieldLinkNest RX7 154 "HandsReturned$House" "wages" "I" "HandsReturned", Cond.fieldLinkNest RX7 171 "HandsReturned$House" "lapsed" "I" "HandsReturned", Cond.fieldLinkNest RX7 174 "HandsReturned$House" "proceeds" "I" "HandsReturned", Cond.methodLinkNest RX7 22 yX3_init "HandsReturned", Cond.fieldLinkNest RX7 84 "HandsReturned$Field" "owner" "I" "HandsReturned", Cond.fieldLinkNest RX7 87 "HandsReturned$Field" "kind" "I" "HandsReturned", Cond.fieldLinkNest RX7 90 "HandsReturned$Field" "lacks" "I" "HandsReturned", Cond.fieldLinkNest RX5 61 "HandsReturned$Field" "lacks" "I" "HandsReturned", Cond.fieldLinkNest RX5 52 "HandsReturned$Field" "ready" "I" "HandsReturned", Cond.fieldLinkNest RX7 93 "HandsReturned$Field" "ready" "I" "HandsReturned", Cond.fieldLinkNest RX7 96 "HandsReturned$Field" "value" "I" "HandsReturned", Cond.fieldLinkNest RX5 63 "HandsReturned$Field" "value" "I" "HandsReturned", Cond.fieldLinkNest RX7 177 "HandsReturned$Field" "doneOn" "I" "HandsReturned", Cond.fieldLinkNest RX7 180 "HandsReturned$Field" "proceeds" "I" "HandsReturned", Cond.methodLinkNest RX7 29 yX6_init "HandsReturned", Cond.fieldLinkNest RX0 46 "HandsReturned$Tape" "length" "I" "HandsReturned", Cond.fieldLinkNest RX7 99 "HandsReturned$Tape" "length" "I" "HandsReturned", Cond.methodLinkNest RX7 36 yX0_init "HandsReturned", Cond.fieldLinkNest RX0 25 "HandsReturned" "UNTOLD" "[I" "HandsReturned", Cond.fieldLinkNest RX7 116 "HandsReturned$Custom" "told" "[I" "HandsReturned", Cond.fieldLinkNest RX7 110 "HandsReturned$Custom" "flaw" "I" "HandsReturned", Cond.fieldLinkNest RX7 113 "HandsReturned$Custom" "place" "I" "HandsReturned", Cond.methodLinkNest RX7 43 yX1_init "HandsReturned", Cond.fieldLinkNest RX2 49 "HandsReturned$Debts" "owers" "[I" "HandsReturned", Cond.fieldLinkNest RX7 249 "HandsReturned$Debts" "owers" "[I" "HandsReturned", Cond.fieldLinkNest RX2 56 "HandsReturned$Debts" "claimers" "[I" "HandsReturned", Cond.fieldLinkNest RX7 252 "HandsReturned$Debts" "since" "[I" "HandsReturned", Cond.fieldLinkNest RX2 59 "HandsReturned$Debts" "units" "[I" "HandsReturned", Cond.fieldLinkNest RX7 255 "HandsReturned$Debts" "units" "[I" "HandsReturned", Cond.fieldLinkNest RX2 43 "HandsReturned$Debts" "count" "I" "HandsReturned", Cond.fieldLinkNest RX7 126 "HandsReturned$Debts" "count" "I" "HandsReturned", Cond.methodLinkNest RX7 50 yX2_init "HandsReturned", Cond.fieldLinkNest RX7 196 "HandsReturned$Evening" "payers" "[I" "HandsReturned", Cond.fieldLinkNest RX7 199 "HandsReturned$Evening" "payees" "[I" "HandsReturned", Cond.fieldLinkNest RX7 202 "HandsReturned$Evening" "units" "[I" "HandsReturned", Cond.fieldLinkNest RX7 195 "HandsReturned$Evening" "count" "I" "HandsReturned", Cond.methodLinkNest RX7 57 yX5_init "HandsReturned", Cond.fieldLinkNest RX7 223 "HandsReturned$Plan" "chosen" "[I" "HandsReturned", Cond.fieldLinkNest RX7 220 "HandsReturned$Plan" "chosenCount" "I" "HandsReturned", Cond.methodLinkNest RX7 102 yX6_append "HandsReturned", Cond.methodLinkNest RX7 106 yX0_read "HandsReturned", Cond.methodLinkNest RX0 63 yX6_at "HandsReturned", Cond.methodLinkNest RX0 82 yX7_within "HandsReturned", Cond.fieldLinkNest RX0 86 "HandsReturned" "LEAST_TOLD" "[I" "HandsReturned", Cond.fieldLinkNest RX0 89 "HandsReturned" "MOST_TOLD" "[I" "HandsReturned", Cond.methodLinkNest RX7 132 yX3_takes "HandsReturned", Cond.methodLinkNest RX7 136 yX4_freeHands "HandsReturned", Cond.methodLinkNest RX7 234 yX1_lessen "HandsReturned", Cond.methodLinkNest RX7 238 yX1_put "HandsReturned", Cond.methodLinkNest RX7 256 yX1_dropEmpty "HandsReturned", Cond.methodLinkNest RX7 161 yX1_net "HandsReturned", Cond.methodLinkNest RX7 184 yX1_unitsOwed "HandsReturned", Cond.methodLinkNest RX7 188 yX1_firstDay "HandsReturned", Cond.methodLinkNest RX7 191 yX2_tellFor "HandsReturned", Cond.methodLinkNest RX2 52 yX7_within "HandsReturned", Cond.methodLinkNest RX7 208 yX5_begin "HandsReturned", Cond.methodLinkNest RX7 212 yX5_take "HandsReturned", Cond.methodLinkNest RX7 216 yX5_choose "HandsReturned", Cond.methodLinkNest RX5 76 yX7_proceedsOf "HandsReturned"]
theorem zz_n0 : Cond.methodLinkNest RX7 15 yX4_init "HandsReturned" ∈ zz_nest := List.mem_of_getElem? (i := 0) rfl
theorem zz_nt0 : Cond.methodLinkNest RX7 15 yX4_init "HandsReturned" ∈ lw_tbl := zz_t1 27 rfl
theorem zz_n1 : Cond.fieldLinkNest RX7 66 "HandsReturned$House" "hands" "I" "HandsReturned" ∈ zz_nest := List.mem_of_getElem? (i := 1) rfl
theorem zz_nt1 : Cond.fieldLinkNest RX7 66 "HandsReturned$House" "hands" "I" "HandsReturned" ∈ lw_tbl := zz_t1 32 rfl
theorem zz_n2 : Cond.fieldLinkNest RX7 69 "HandsReturned$House" "widow" "Z" "HandsReturned" ∈ zz_nest := List.mem_of_getElem? (i := 2) rfl
theorem zz_nt2 : Cond.fieldLinkNest RX7 69 "HandsReturned$House" "widow" "Z" "HandsReturned" ∈ lw_tbl := zz_t1 33 rfl
theorem zz_n3 : Cond.fieldLinkNest RX7 119 "HandsReturned$House" "daysIll" "I" "HandsReturned" ∈ zz_nest := List.mem_of_getElem? (i := 3) rfl
theorem zz_nt3 : Cond.fieldLinkNest RX7 119 "HandsReturned$House" "daysIll" "I" "HandsReturned" ∈ lw_tbl := zz_t1 35 rfl
theorem zz_n4 : Cond.fieldLinkNest RX7 140 "HandsReturned$House" "busy" "I" "HandsReturned" ∈ zz_nest := List.mem_of_getElem? (i := 4) rfl
theorem zz_nt4 : Cond.fieldLinkNest RX7 140 "HandsReturned$House" "busy" "I" "HandsReturned" ∈ lw_tbl := zz_t1 37 rfl
theorem zz_n5 : Cond.fieldLinkNest RX7 165 "HandsReturned$House" "foodDue" "I" "HandsReturned" ∈ zz_nest := List.mem_of_getElem? (i := 5) rfl
theorem zz_nt5 : Cond.fieldLinkNest RX7 165 "HandsReturned$House" "foodDue" "I" "HandsReturned" ∈ lw_tbl := zz_t1 38 rfl
theorem zz_n6 : Cond.fieldLinkNest RX7 168 "HandsReturned$House" "foodOwed" "I" "HandsReturned" ∈ zz_nest := List.mem_of_getElem? (i := 6) rfl
theorem zz_nt6 : Cond.fieldLinkNest RX7 168 "HandsReturned$House" "foodOwed" "I" "HandsReturned" ∈ lw_tbl := zz_t1 39 rfl
theorem zz_n7 : Cond.fieldLinkNest RX7 154 "HandsReturned$House" "wages" "I" "HandsReturned" ∈ zz_nest := List.mem_of_getElem? (i := 7) rfl
theorem zz_nt7 : Cond.fieldLinkNest RX7 154 "HandsReturned$House" "wages" "I" "HandsReturned" ∈ lw_tbl := zz_t1 40 rfl
theorem zz_n8 : Cond.fieldLinkNest RX7 171 "HandsReturned$House" "lapsed" "I" "HandsReturned" ∈ zz_nest := List.mem_of_getElem? (i := 8) rfl
theorem zz_nt8 : Cond.fieldLinkNest RX7 171 "HandsReturned$House" "lapsed" "I" "HandsReturned" ∈ lw_tbl := zz_t1 41 rfl
theorem zz_n9 : Cond.fieldLinkNest RX7 174 "HandsReturned$House" "proceeds" "I" "HandsReturned" ∈ zz_nest := List.mem_of_getElem? (i := 9) rfl
theorem zz_nt9 : Cond.fieldLinkNest RX7 174 "HandsReturned$House" "proceeds" "I" "HandsReturned" ∈ lw_tbl := zz_t1 42 rfl
theorem zz_n10 : Cond.methodLinkNest RX7 22 yX3_init "HandsReturned" ∈ zz_nest := List.mem_of_getElem? (i := 10) rfl
theorem zz_nt10 : Cond.methodLinkNest RX7 22 yX3_init "HandsReturned" ∈ lw_tbl := zz_t1 65 rfl
theorem zz_n11 : Cond.fieldLinkNest RX7 84 "HandsReturned$Field" "owner" "I" "HandsReturned" ∈ zz_nest := List.mem_of_getElem? (i := 11) rfl
theorem zz_nt11 : Cond.fieldLinkNest RX7 84 "HandsReturned$Field" "owner" "I" "HandsReturned" ∈ lw_tbl := zz_t1 69 rfl
theorem zz_n12 : Cond.fieldLinkNest RX7 87 "HandsReturned$Field" "kind" "I" "HandsReturned" ∈ zz_nest := List.mem_of_getElem? (i := 12) rfl
theorem zz_nt12 : Cond.fieldLinkNest RX7 87 "HandsReturned$Field" "kind" "I" "HandsReturned" ∈ lw_tbl := zz_t1 70 rfl
theorem zz_n13 : Cond.fieldLinkNest RX7 90 "HandsReturned$Field" "lacks" "I" "HandsReturned" ∈ zz_nest := List.mem_of_getElem? (i := 13) rfl
theorem zz_nt13 : Cond.fieldLinkNest RX7 90 "HandsReturned$Field" "lacks" "I" "HandsReturned" ∈ lw_tbl := zz_t1 72 rfl
theorem zz_n14 : Cond.fieldLinkNest RX5 61 "HandsReturned$Field" "lacks" "I" "HandsReturned" ∈ zz_nest := List.mem_of_getElem? (i := 14) rfl
theorem zz_nt14 : Cond.fieldLinkNest RX5 61 "HandsReturned$Field" "lacks" "I" "HandsReturned" ∈ lw_tbl := zz_t1 73 rfl
theorem zz_n15 : Cond.fieldLinkNest RX5 52 "HandsReturned$Field" "ready" "I" "HandsReturned" ∈ zz_nest := List.mem_of_getElem? (i := 15) rfl
theorem zz_nt15 : Cond.fieldLinkNest RX5 52 "HandsReturned$Field" "ready" "I" "HandsReturned" ∈ lw_tbl := zz_t1 75 rfl
theorem zz_n16 : Cond.fieldLinkNest RX7 93 "HandsReturned$Field" "ready" "I" "HandsReturned" ∈ zz_nest := List.mem_of_getElem? (i := 16) rfl
theorem zz_nt16 : Cond.fieldLinkNest RX7 93 "HandsReturned$Field" "ready" "I" "HandsReturned" ∈ lw_tbl := zz_t1 76 rfl
theorem zz_n17 : Cond.fieldLinkNest RX7 96 "HandsReturned$Field" "value" "I" "HandsReturned" ∈ zz_nest := List.mem_of_getElem? (i := 17) rfl
theorem zz_nt17 : Cond.fieldLinkNest RX7 96 "HandsReturned$Field" "value" "I" "HandsReturned" ∈ lw_tbl := zz_t1 77 rfl
theorem zz_n18 : Cond.fieldLinkNest RX5 63 "HandsReturned$Field" "value" "I" "HandsReturned" ∈ zz_nest := List.mem_of_getElem? (i := 18) rfl
theorem zz_nt18 : Cond.fieldLinkNest RX5 63 "HandsReturned$Field" "value" "I" "HandsReturned" ∈ lw_tbl := zz_t1 78 rfl
theorem zz_n19 : Cond.fieldLinkNest RX7 177 "HandsReturned$Field" "doneOn" "I" "HandsReturned" ∈ zz_nest := List.mem_of_getElem? (i := 19) rfl
theorem zz_nt19 : Cond.fieldLinkNest RX7 177 "HandsReturned$Field" "doneOn" "I" "HandsReturned" ∈ lw_tbl := zz_t1 80 rfl
theorem zz_n20 : Cond.fieldLinkNest RX7 180 "HandsReturned$Field" "proceeds" "I" "HandsReturned" ∈ zz_nest := List.mem_of_getElem? (i := 20) rfl
theorem zz_nt20 : Cond.fieldLinkNest RX7 180 "HandsReturned$Field" "proceeds" "I" "HandsReturned" ∈ lw_tbl := zz_t1 82 rfl
theorem zz_n21 : Cond.methodLinkNest RX7 29 yX6_init "HandsReturned" ∈ zz_nest := List.mem_of_getElem? (i := 21) rfl
theorem zz_nt21 : Cond.methodLinkNest RX7 29 yX6_init "HandsReturned" ∈ lw_tbl := zz_t1 100 rfl
theorem zz_n22 : Cond.fieldLinkNest RX0 46 "HandsReturned$Tape" "length" "I" "HandsReturned" ∈ zz_nest := List.mem_of_getElem? (i := 22) rfl
theorem zz_nt22 : Cond.fieldLinkNest RX0 46 "HandsReturned$Tape" "length" "I" "HandsReturned" ∈ lw_tbl := zz_t1 106 rfl
theorem zz_n23 : Cond.fieldLinkNest RX7 99 "HandsReturned$Tape" "length" "I" "HandsReturned" ∈ zz_nest := List.mem_of_getElem? (i := 23) rfl
theorem zz_nt23 : Cond.fieldLinkNest RX7 99 "HandsReturned$Tape" "length" "I" "HandsReturned" ∈ lw_tbl := zz_t1 107 rfl
theorem zz_n24 : Cond.methodLinkNest RX7 36 yX0_init "HandsReturned" ∈ zz_nest := List.mem_of_getElem? (i := 24) rfl
theorem zz_nt24 : Cond.methodLinkNest RX7 36 yX0_init "HandsReturned" ∈ lw_tbl := zz_t1 116 rfl
theorem zz_n25 : Cond.fieldLinkNest RX0 25 "HandsReturned" "UNTOLD" "[I" "HandsReturned" ∈ zz_nest := List.mem_of_getElem? (i := 25) rfl
theorem zz_nt25 : Cond.fieldLinkNest RX0 25 "HandsReturned" "UNTOLD" "[I" "HandsReturned" ∈ lw_tbl := zz_t1 120 rfl
theorem zz_n26 : Cond.fieldLinkNest RX7 116 "HandsReturned$Custom" "told" "[I" "HandsReturned" ∈ zz_nest := List.mem_of_getElem? (i := 26) rfl
theorem zz_nt26 : Cond.fieldLinkNest RX7 116 "HandsReturned$Custom" "told" "[I" "HandsReturned" ∈ lw_tbl := zz_t1 126 rfl
theorem zz_n27 : Cond.fieldLinkNest RX7 110 "HandsReturned$Custom" "flaw" "I" "HandsReturned" ∈ zz_nest := List.mem_of_getElem? (i := 27) rfl
theorem zz_nt27 : Cond.fieldLinkNest RX7 110 "HandsReturned$Custom" "flaw" "I" "HandsReturned" ∈ lw_tbl := zz_t1 129 rfl
theorem zz_n28 : Cond.fieldLinkNest RX7 113 "HandsReturned$Custom" "place" "I" "HandsReturned" ∈ zz_nest := List.mem_of_getElem? (i := 28) rfl
theorem zz_nt28 : Cond.fieldLinkNest RX7 113 "HandsReturned$Custom" "place" "I" "HandsReturned" ∈ lw_tbl := zz_t1 131 rfl
theorem zz_n29 : Cond.methodLinkNest RX7 43 yX1_init "HandsReturned" ∈ zz_nest := List.mem_of_getElem? (i := 29) rfl
theorem zz_nt29 : Cond.methodLinkNest RX7 43 yX1_init "HandsReturned" ∈ lw_tbl := zz_t1 155 rfl
theorem zz_n30 : Cond.fieldLinkNest RX2 49 "HandsReturned$Debts" "owers" "[I" "HandsReturned" ∈ zz_nest := List.mem_of_getElem? (i := 30) rfl
theorem zz_nt30 : Cond.fieldLinkNest RX2 49 "HandsReturned$Debts" "owers" "[I" "HandsReturned" ∈ lw_tbl := zz_t1 160 rfl
theorem zz_n31 : Cond.fieldLinkNest RX7 249 "HandsReturned$Debts" "owers" "[I" "HandsReturned" ∈ zz_nest := List.mem_of_getElem? (i := 31) rfl
theorem zz_nt31 : Cond.fieldLinkNest RX7 249 "HandsReturned$Debts" "owers" "[I" "HandsReturned" ∈ lw_tbl := zz_t1 161 rfl
theorem zz_n32 : Cond.fieldLinkNest RX2 56 "HandsReturned$Debts" "claimers" "[I" "HandsReturned" ∈ zz_nest := List.mem_of_getElem? (i := 32) rfl
theorem zz_nt32 : Cond.fieldLinkNest RX2 56 "HandsReturned$Debts" "claimers" "[I" "HandsReturned" ∈ lw_tbl := zz_t1 163 rfl
theorem zz_n33 : Cond.fieldLinkNest RX7 252 "HandsReturned$Debts" "since" "[I" "HandsReturned" ∈ zz_nest := List.mem_of_getElem? (i := 33) rfl
theorem zz_nt33 : Cond.fieldLinkNest RX7 252 "HandsReturned$Debts" "since" "[I" "HandsReturned" ∈ lw_tbl := zz_t1 165 rfl
theorem zz_n34 : Cond.fieldLinkNest RX2 59 "HandsReturned$Debts" "units" "[I" "HandsReturned" ∈ zz_nest := List.mem_of_getElem? (i := 34) rfl
theorem zz_nt34 : Cond.fieldLinkNest RX2 59 "HandsReturned$Debts" "units" "[I" "HandsReturned" ∈ lw_tbl := zz_t1 167 rfl
theorem zz_n35 : Cond.fieldLinkNest RX7 255 "HandsReturned$Debts" "units" "[I" "HandsReturned" ∈ zz_nest := List.mem_of_getElem? (i := 35) rfl
theorem zz_nt35 : Cond.fieldLinkNest RX7 255 "HandsReturned$Debts" "units" "[I" "HandsReturned" ∈ lw_tbl := zz_t1 168 rfl
theorem zz_n36 : Cond.fieldLinkNest RX2 43 "HandsReturned$Debts" "count" "I" "HandsReturned" ∈ zz_nest := List.mem_of_getElem? (i := 36) rfl
theorem zz_nt36 : Cond.fieldLinkNest RX2 43 "HandsReturned$Debts" "count" "I" "HandsReturned" ∈ lw_tbl := zz_t1 170 rfl
theorem zz_n37 : Cond.fieldLinkNest RX7 126 "HandsReturned$Debts" "count" "I" "HandsReturned" ∈ zz_nest := List.mem_of_getElem? (i := 37) rfl
theorem zz_nt37 : Cond.fieldLinkNest RX7 126 "HandsReturned$Debts" "count" "I" "HandsReturned" ∈ lw_tbl := zz_t1 171 rfl
theorem zz_n38 : Cond.methodLinkNest RX7 50 yX2_init "HandsReturned" ∈ zz_nest := List.mem_of_getElem? (i := 38) rfl
theorem zz_nt38 : Cond.methodLinkNest RX7 50 yX2_init "HandsReturned" ∈ lw_tbl := zz_t1 185 rfl
theorem zz_n39 : Cond.fieldLinkNest RX7 196 "HandsReturned$Evening" "payers" "[I" "HandsReturned" ∈ zz_nest := List.mem_of_getElem? (i := 39) rfl
theorem zz_nt39 : Cond.fieldLinkNest RX7 196 "HandsReturned$Evening" "payers" "[I" "HandsReturned" ∈ lw_tbl := zz_t1 195 rfl
theorem zz_n40 : Cond.fieldLinkNest RX7 199 "HandsReturned$Evening" "payees" "[I" "HandsReturned" ∈ zz_nest := List.mem_of_getElem? (i := 40) rfl
theorem zz_nt40 : Cond.fieldLinkNest RX7 199 "HandsReturned$Evening" "payees" "[I" "HandsReturned" ∈ lw_tbl := zz_t1 197 rfl
theorem zz_n41 : Cond.fieldLinkNest RX7 202 "HandsReturned$Evening" "units" "[I" "HandsReturned" ∈ zz_nest := List.mem_of_getElem? (i := 41) rfl
theorem zz_nt41 : Cond.fieldLinkNest RX7 202 "HandsReturned$Evening" "units" "[I" "HandsReturned" ∈ lw_tbl := zz_t1 199 rfl
theorem zz_n42 : Cond.fieldLinkNest RX7 195 "HandsReturned$Evening" "count" "I" "HandsReturned" ∈ zz_nest := List.mem_of_getElem? (i := 42) rfl
theorem zz_nt42 : Cond.fieldLinkNest RX7 195 "HandsReturned$Evening" "count" "I" "HandsReturned" ∈ lw_tbl := zz_t1 201 rfl
theorem zz_n43 : Cond.methodLinkNest RX7 57 yX5_init "HandsReturned" ∈ zz_nest := List.mem_of_getElem? (i := 43) rfl
theorem zz_nt43 : Cond.methodLinkNest RX7 57 yX5_init "HandsReturned" ∈ lw_tbl := zz_t1 223 rfl
theorem zz_n44 : Cond.fieldLinkNest RX7 223 "HandsReturned$Plan" "chosen" "[I" "HandsReturned" ∈ zz_nest := List.mem_of_getElem? (i := 44) rfl
theorem zz_nt44 : Cond.fieldLinkNest RX7 223 "HandsReturned$Plan" "chosen" "[I" "HandsReturned" ∈ lw_tbl := zz_t1 235 rfl
theorem zz_n45 : Cond.fieldLinkNest RX7 220 "HandsReturned$Plan" "chosenCount" "I" "HandsReturned" ∈ zz_nest := List.mem_of_getElem? (i := 45) rfl
theorem zz_nt45 : Cond.fieldLinkNest RX7 220 "HandsReturned$Plan" "chosenCount" "I" "HandsReturned" ∈ lw_tbl := zz_t1 237 rfl
theorem zz_n46 : Cond.methodLinkNest RX7 102 yX6_append "HandsReturned" ∈ zz_nest := List.mem_of_getElem? (i := 46) rfl
theorem zz_nt46 : Cond.methodLinkNest RX7 102 yX6_append "HandsReturned" ∈ lw_tbl := zz_t2 86 rfl
theorem zz_n47 : Cond.methodLinkNest RX7 106 yX0_read "HandsReturned" ∈ zz_nest := List.mem_of_getElem? (i := 47) rfl
theorem zz_nt47 : Cond.methodLinkNest RX7 106 yX0_read "HandsReturned" ∈ lw_tbl := zz_t2 98 rfl
theorem zz_n48 : Cond.methodLinkNest RX0 63 yX6_at "HandsReturned" ∈ zz_nest := List.mem_of_getElem? (i := 48) rfl
theorem zz_nt48 : Cond.methodLinkNest RX0 63 yX6_at "HandsReturned" ∈ lw_tbl := zz_t2 105 rfl
theorem zz_n49 : Cond.methodLinkNest RX0 82 yX7_within "HandsReturned" ∈ zz_nest := List.mem_of_getElem? (i := 49) rfl
theorem zz_nt49 : Cond.methodLinkNest RX0 82 yX7_within "HandsReturned" ∈ lw_tbl := zz_t2 194 rfl
theorem zz_n50 : Cond.fieldLinkNest RX0 86 "HandsReturned" "LEAST_TOLD" "[I" "HandsReturned" ∈ zz_nest := List.mem_of_getElem? (i := 50) rfl
theorem zz_nt50 : Cond.fieldLinkNest RX0 86 "HandsReturned" "LEAST_TOLD" "[I" "HandsReturned" ∈ lw_tbl := zz_t2 195 rfl
theorem zz_n51 : Cond.fieldLinkNest RX0 89 "HandsReturned" "MOST_TOLD" "[I" "HandsReturned" ∈ zz_nest := List.mem_of_getElem? (i := 51) rfl
theorem zz_nt51 : Cond.fieldLinkNest RX0 89 "HandsReturned" "MOST_TOLD" "[I" "HandsReturned" ∈ lw_tbl := zz_t2 197 rfl
theorem zz_n52 : Cond.methodLinkNest RX7 132 yX3_takes "HandsReturned" ∈ zz_nest := List.mem_of_getElem? (i := 52) rfl
theorem zz_nt52 : Cond.methodLinkNest RX7 132 yX3_takes "HandsReturned" ∈ lw_tbl := zz_t2 224 rfl
theorem zz_n53 : Cond.methodLinkNest RX7 136 yX4_freeHands "HandsReturned" ∈ zz_nest := List.mem_of_getElem? (i := 53) rfl
theorem zz_nt53 : Cond.methodLinkNest RX7 136 yX4_freeHands "HandsReturned" ∈ lw_tbl := zz_t2 228 rfl
theorem zz_n54 : Cond.methodLinkNest RX7 234 yX1_lessen "HandsReturned" ∈ zz_nest := List.mem_of_getElem? (i := 54) rfl
theorem zz_nt54 : Cond.methodLinkNest RX7 234 yX1_lessen "HandsReturned" ∈ lw_tbl := zz_t2 236 rfl
theorem zz_n55 : Cond.methodLinkNest RX7 238 yX1_put "HandsReturned" ∈ zz_nest := List.mem_of_getElem? (i := 55) rfl
theorem zz_nt55 : Cond.methodLinkNest RX7 238 yX1_put "HandsReturned" ∈ lw_tbl := zz_t3 9 rfl
theorem zz_n56 : Cond.methodLinkNest RX7 256 yX1_dropEmpty "HandsReturned" ∈ zz_nest := List.mem_of_getElem? (i := 56) rfl
theorem zz_nt56 : Cond.methodLinkNest RX7 256 yX1_dropEmpty "HandsReturned" ∈ lw_tbl := zz_t3 40 rfl
theorem zz_n57 : Cond.methodLinkNest RX7 161 yX1_net "HandsReturned" ∈ zz_nest := List.mem_of_getElem? (i := 57) rfl
theorem zz_nt57 : Cond.methodLinkNest RX7 161 yX1_net "HandsReturned" ∈ lw_tbl := zz_t3 46 rfl
theorem zz_n58 : Cond.methodLinkNest RX7 184 yX1_unitsOwed "HandsReturned" ∈ zz_nest := List.mem_of_getElem? (i := 58) rfl
theorem zz_nt58 : Cond.methodLinkNest RX7 184 yX1_unitsOwed "HandsReturned" ∈ lw_tbl := zz_t3 62 rfl
theorem zz_n59 : Cond.methodLinkNest RX7 188 yX1_firstDay "HandsReturned" ∈ zz_nest := List.mem_of_getElem? (i := 59) rfl
theorem zz_nt59 : Cond.methodLinkNest RX7 188 yX1_firstDay "HandsReturned" ∈ lw_tbl := zz_t3 70 rfl
theorem zz_n60 : Cond.methodLinkNest RX7 191 yX2_tellFor "HandsReturned" ∈ zz_nest := List.mem_of_getElem? (i := 60) rfl
theorem zz_nt60 : Cond.methodLinkNest RX7 191 yX2_tellFor "HandsReturned" ∈ lw_tbl := zz_t3 78 rfl
theorem zz_n61 : Cond.methodLinkNest RX2 52 yX7_within "HandsReturned" ∈ zz_nest := List.mem_of_getElem? (i := 61) rfl
theorem zz_nt61 : Cond.methodLinkNest RX2 52 yX7_within "HandsReturned" ∈ lw_tbl := zz_t3 86 rfl
theorem zz_n62 : Cond.methodLinkNest RX7 208 yX5_begin "HandsReturned" ∈ zz_nest := List.mem_of_getElem? (i := 62) rfl
theorem zz_nt62 : Cond.methodLinkNest RX7 208 yX5_begin "HandsReturned" ∈ lw_tbl := zz_t3 125 rfl
theorem zz_n63 : Cond.methodLinkNest RX7 212 yX5_take "HandsReturned" ∈ zz_nest := List.mem_of_getElem? (i := 63) rfl
theorem zz_nt63 : Cond.methodLinkNest RX7 212 yX5_take "HandsReturned" ∈ lw_tbl := zz_t3 130 rfl
theorem zz_n64 : Cond.methodLinkNest RX7 216 yX5_choose "HandsReturned" ∈ zz_nest := List.mem_of_getElem? (i := 64) rfl
theorem zz_nt64 : Cond.methodLinkNest RX7 216 yX5_choose "HandsReturned" ∈ lw_tbl := zz_t3 138 rfl
theorem zz_n65 : Cond.methodLinkNest RX5 76 yX7_proceedsOf "HandsReturned" ∈ zz_nest := List.mem_of_getElem? (i := 65) rfl
theorem zz_nt65 : Cond.methodLinkNest RX5 76 yX7_proceedsOf "HandsReturned" ∈ lw_tbl := zz_t3 150 rfl
theorem zz_nest_in : ∀ w ∈ zz_nest, w ∈ lw_tbl := List.forall_mem_cons.mpr ⟨zz_nt0, List.forall_mem_cons.mpr ⟨zz_nt1, List.forall_mem_cons.mpr ⟨zz_nt2, List.forall_mem_cons.mpr ⟨zz_nt3, List.forall_mem_cons.mpr ⟨zz_nt4, List.forall_mem_cons.mpr ⟨zz_nt5, List.forall_mem_cons.mpr ⟨zz_nt6, List.forall_mem_cons.mpr ⟨zz_nt7, List.forall_mem_cons.mpr ⟨zz_nt8, List.forall_mem_cons.mpr ⟨zz_nt9, List.forall_mem_cons.mpr ⟨zz_nt10, List.forall_mem_cons.mpr ⟨zz_nt11, List.forall_mem_cons.mpr ⟨zz_nt12, List.forall_mem_cons.mpr ⟨zz_nt13, List.forall_mem_cons.mpr ⟨zz_nt14, List.forall_mem_cons.mpr ⟨zz_nt15, List.forall_mem_cons.mpr ⟨zz_nt16, List.forall_mem_cons.mpr ⟨zz_nt17, List.forall_mem_cons.mpr ⟨zz_nt18, List.forall_mem_cons.mpr ⟨zz_nt19, List.forall_mem_cons.mpr ⟨zz_nt20, List.forall_mem_cons.mpr ⟨zz_nt21, List.forall_mem_cons.mpr ⟨zz_nt22, List.forall_mem_cons.mpr ⟨zz_nt23, List.forall_mem_cons.mpr ⟨zz_nt24, List.forall_mem_cons.mpr ⟨zz_nt25, List.forall_mem_cons.mpr ⟨zz_nt26, List.forall_mem_cons.mpr ⟨zz_nt27, List.forall_mem_cons.mpr ⟨zz_nt28, List.forall_mem_cons.mpr ⟨zz_nt29, List.forall_mem_cons.mpr ⟨zz_nt30, List.forall_mem_cons.mpr ⟨zz_nt31, List.forall_mem_cons.mpr ⟨zz_nt32, List.forall_mem_cons.mpr ⟨zz_nt33, List.forall_mem_cons.mpr ⟨zz_nt34, List.forall_mem_cons.mpr ⟨zz_nt35, List.forall_mem_cons.mpr ⟨zz_nt36, List.forall_mem_cons.mpr ⟨zz_nt37, List.forall_mem_cons.mpr ⟨zz_nt38, List.forall_mem_cons.mpr ⟨zz_nt39, List.forall_mem_cons.mpr ⟨zz_nt40, List.forall_mem_cons.mpr ⟨zz_nt41, List.forall_mem_cons.mpr ⟨zz_nt42, List.forall_mem_cons.mpr ⟨zz_nt43, List.forall_mem_cons.mpr ⟨zz_nt44, List.forall_mem_cons.mpr ⟨zz_nt45, List.forall_mem_cons.mpr ⟨zz_nt46, List.forall_mem_cons.mpr ⟨zz_nt47, List.forall_mem_cons.mpr ⟨zz_nt48, List.forall_mem_cons.mpr ⟨zz_nt49, List.forall_mem_cons.mpr ⟨zz_nt50, List.forall_mem_cons.mpr ⟨zz_nt51, List.forall_mem_cons.mpr ⟨zz_nt52, List.forall_mem_cons.mpr ⟨zz_nt53, List.forall_mem_cons.mpr ⟨zz_nt54, List.forall_mem_cons.mpr ⟨zz_nt55, List.forall_mem_cons.mpr ⟨zz_nt56, List.forall_mem_cons.mpr ⟨zz_nt57, List.forall_mem_cons.mpr ⟨zz_nt58, List.forall_mem_cons.mpr ⟨zz_nt59, List.forall_mem_cons.mpr ⟨zz_nt60, List.forall_mem_cons.mpr ⟨zz_nt61, List.forall_mem_cons.mpr ⟨zz_nt62, List.forall_mem_cons.mpr ⟨zz_nt63, List.forall_mem_cons.mpr ⟨zz_nt64, List.forall_mem_cons.mpr ⟨zz_nt65, fun _ h => absurd h List.not_mem_nil⟩⟩⟩⟩⟩⟩⟩⟩⟩⟩⟩⟩⟩⟩⟩⟩⟩⟩⟩⟩⟩⟩⟩⟩⟩⟩⟩⟩⟩⟩⟩⟩⟩⟩⟩⟩⟩⟩⟩⟩⟩⟩⟩⟩⟩⟩⟩⟩⟩⟩⟩⟩⟩⟩⟩⟩⟩⟩⟩⟩⟩⟩⟩⟩⟩⟩
def zz_isN : Cond → Bool
  | .fieldLinkNest _ _ _ _ _ _ => true
  | .methodLinkNest _ _ _ _ => true
  | _ => false
theorem zz_nest_is : ∀ w ∈ zz_nest, zz_isN w = true := List.all_eq_true.mp (by rfl : zz_nest.all zz_isN = true)
theorem zz_isN_tab {w : Cond} (h : zz_isN w = true) : w.onTables = true := by
  cases w <;> first | rfl | exact absurd h (by simp [zz_isN])
theorem zz_isN_warm {w : Cond} {s U : State} (h : zz_isN w = true) (hW : s.WarmedH U.vm) (hZ : va_Nw w s) : va_Nw w U := by
  cases w <;> first | exact va_Nw.warmF hW hZ | exact va_Nw.warmM hW hZ | exact absurd h (by simp [zz_isN])
def zz_N (U : State) : Prop := (∀ w ∈ zz_nest, va_Nw w U) ∧ va_AO RX4 U ∧ va_AO RX3 U
theorem zz_N.use {U : State} {A : Array Value} {w : Cond} (h : zz_N U) (hm : w ∈ zz_nest) : w.before A U = true := va_Nw.use (zz_isN_tab (zz_nest_is w hm)) (h.1 w hm)
theorem zz_N.warm {s U : State} (hW : s.WarmedH U.vm) (h : zz_N s) : zz_N U := ⟨fun w hm => zz_isN_warm (zz_nest_is w hm) hW (h.1 w hm), h.2.1.moved hW.alike, h.2.2.moved hW.alike⟩
theorem zz_N.call {U : State} {g : JFrame} {mk : MethodId} {a : Array Value} (h : zz_N U) : zz_N (U.calling g mk a) := ⟨fun w hm => va_Nw.same (u := U) (zz_isN_tab (zz_nest_is w hm)) rfl (h.1 w hm), va_AO.moved (u := U) (Vm.Alike.refl U.vm) h.2.1, va_AO.moved (u := U) (Vm.Alike.refl U.vm) h.2.2⟩
def zz_B (D : va_G) (sz : Nat) (ws : va_W) (tys : List (ClassId × FieldType)) (U : State) : Prop := U.heap.size = sz ∧ va_P D vwCl ws U.heap ∧ va_K D vwCl tys U ∧ va_D (fun _ => True) ws ∧ zz_N U
theorem zz_blind {av : List Value} {D : va_G} {sz : Nat} {ws : va_W} {tys : List (ClassId × FieldType)} : FrameBlind (va_Pc av (zz_B D sz ws tys)) := by
  intro a U g mk q
  obtain ⟨q0, q1, qP, qK, qD, qN⟩ := q
  exact ⟨q0, q1, qP, va_K.moved (u := U) (U := U.calling g mk a) (Vm.Alike.refl U.vm) qK, qD, qN.call⟩
theorem zz_pre {s : State} {H : Heap} {D : va_G} {ws : va_W} {tys : List (ClassId × FieldType)} {av : List Value} {A : Nat → Prop} (hP : va_P D vwCl ws H) (hK : va_K D vwCl tys s) (hD : va_D A ws) (hN : zz_N s) : ∀ U : State, U.heap = H → s.WarmedH U.vm → va_Pc av (zz_B D H.size ws tys) av.toArray U :=
  fun U hU hW => ⟨rfl, by rw [hU], by rw [hU]; exact hP, va_K.moved hW.alike hK, hD.weaken (fun _ _ _ _ => trivial), hN.warm hW⟩
def zz_un : Nat → Int32 := fun k => if k < 3 then 1 else if k = 3 then 400 else 0
def zz_Un (b0 : Nat) (A : Nat → Prop) (U : State) : Prop := va_Z RX7 "UNTOLD" "[I" (.ref b0) A U U.heap ∧ va_X b0 7 zz_un U U.heap ∧ b0 < U.heap.size ∧ ¬ A b0
def zz_BU (D : va_G) (sz b0 : Nat) (ws : va_W) (tys : List (ClassId × FieldType)) (U : State) : Prop := zz_B D sz ws tys U ∧ zz_Un b0 (va_A ws sz) U
theorem zz_blindU {av : List Value} {D : va_G} {sz b0 : Nat} {ws : va_W} {tys : List (ClassId × FieldType)} : FrameBlind (va_Pc av (zz_BU D sz b0 ws tys)) := by
  intro a U g mk q
  obtain ⟨q0, ⟨q1, qP, qK, qD, qN⟩, z, x, lt, na⟩ := q
  exact ⟨q0, ⟨q1, qP, va_K.moved (u := U) (U := U.calling g mk a) (Vm.Alike.refl U.vm) qK, qD, qN.call⟩, va_Z.moved (u := U) (U := U.calling g mk a) (Vm.Alike.refl U.vm) z, va_X.moved (u := U) (U := U.calling g mk a) (Vm.Alike.refl U.vm) x, lt, na⟩
theorem zz_preU {s : State} {H : Heap} {D : va_G} {b0 : Nat} {ws : va_W} {tys : List (ClassId × FieldType)} {av : List Value} {A A0 : Nat → Prop} {locs : List Loc} (hP : va_P D vwCl ws H) (hK : va_K D vwCl tys s) (hD : va_D A0 ws) (hN : zz_N s) (hU0 : zz_Un b0 A s) (hS : va_S A s.heap H locs) (hF : ∀ q, va_A ws H.size q → A q) : ∀ U : State, U.heap = H → s.WarmedH U.vm → va_Pc av (zz_BU D H.size b0 ws tys) av.toArray U := by
  intro U hU hW
  obtain ⟨z, x, lt, na⟩ := hU0
  refine ⟨rfl, ⟨by rw [hU], by rw [hU]; exact hP, va_K.moved hW.alike hK, hD.weaken (fun _ _ _ _ => trivial), hN.warm hW⟩, ?_, ?_, ?_, fun h => na (hF _ h)⟩
  · rw [hU]; exact ((z.kept hS.2.1).moved hW.alike).narrow hF
  · rw [hU]; exact (x.kept (hS.2.1 b0 lt na)).moved hW.alike
  · rw [hU]; exact Nat.lt_of_lt_of_le lt hS.1
theorem zz_keep {D : va_G} {cl : List vw_C} {ws : va_W} {H H1 : Heap} (hP : va_P D cl ws H) (hk : ∀ q : Nat, q < H.size → ¬ va_A [] H.size q → H1[q]? = H[q]?) : va_P D cl ws H1 :=
  hP.kept (fun k q h => hk q.1 ((hP k q h).lt) (fun z => by
    rcases z with ⟨k2, e, h2⟩ | h2
    · simp at h2
    · exact absurd ((hP k q h).lt) (Nat.not_lt.mpr h2)))
theorem zz_D0 {A : Nat → Prop} : va_D A [] := ⟨fun i j p q h => by simp at h, fun k q h => by simp at h⟩
theorem zz_P0 {D : va_G} {cl : List vw_C} {H : Heap} : va_P D cl [] H := fun k q h => by simp at h
theorem zz_free0 {A : Nat → Prop} {H0 H : Heap} {locs : List Loc} (hS : va_S A H0 H locs) (hA : ∀ q, H0.size ≤ q → A q) : ∀ q, va_A [] H.size q → A q := va_free (ws := []) (wc := []) zz_D0 hS hA [] rfl
theorem zz_ty {D : va_G} {cl : List vw_C} {A : Nat → Prop} {ws : va_W} {H : Heap} (W : va_W) (hP : va_P D cl ws H) (hD : va_D A ws) (e : ws = W) : va_P D cl W H ∧ va_D A W := e ▸ ⟨hP, hD⟩
theorem zz_sub2 {D : va_G} {cl : List vw_C} {A : Nat → Prop} {ws ws' : va_W} {H : Heap} (hP : va_P D cl ws H) (hD : va_D A ws) (is : List Nat) (hn : va_nd is = true) (hs : is.map (fun i => ws[i]?) = ws'.map some) : va_P D cl ws' H ∧ va_D A ws' := by
  refine ⟨fun k q hk => ?_, hD.sub is hn hs⟩
  have h1 : (is.map (fun i => ws[i]?))[k]? = some (some q) := by rw [hs, List.getElem?_map, hk]; rfl
  rw [List.getElem?_map] at h1
  cases hi : is[k]? with
  | none => rw [hi] at h1; cases h1
  | some i => rw [hi] at h1; exact hP i q (Option.some.inj h1)
theorem zz_part2 {D : va_G} {cl : List vw_C} {A : Nat → Prop} {X cx pl : va_W} {H : Heap} (hP : va_P D cl (X ++ pl) H) (hD : va_D A (X ++ pl)) (is : List Nat) (hn : va_nd is = true) (hs : is.map (fun i => X[i]?) = cx.map some) : va_P D cl (cx ++ pl) H ∧ va_D A (cx ++ pl) := ⟨hP.part is hs, hD.part is hn hs⟩
theorem zz_free1 {A : Nat → Prop} {wc : va_W} {H0 H : Heap} {locs : List Loc} (hD : va_D A wc) (hS : va_S A H0 H locs) (hA : ∀ q, H0.size ≤ q → A q) : ∀ q, va_A wc H.size q → A q := by
  intro q h
  rcases h with ⟨k, e, h⟩ | h
  · exact hD.2 k (q, e) h
  · exact hA q (Nat.le_trans hS.1 h)
theorem zz_cA {D : va_G} {cl : List vw_C} {tys : List (ClassId × FieldType)} {U : State} {c1 c2 : ClassId} {ty : FieldType} (hK : va_K D cl tys U) (i j : Nat) (h1 : tys[i]? = some (c1, ty)) (h2 : tys[j]? = some (c2, ty)) (hty : ∀ C, ty ≠ .object C) : c2 = c1 := by
  have a := (hK.2 i _ h1).2
  have b := (hK.2 j _ h2).2
  cases ty with
  | object C => exact absurd rfl (hty C)
  | _ => exact Option.some.inj (b.symm.trans a)
section ZW
variable {p : Program} {l : Launch} {e : Env} {R : Room} {s : State} {m : MethodId} {args : Array Value} {below : List Frame} {meth : Method} {c : Code} {H : Heap} {locs : List Loc} {cells slots : Nat} {Q : State → Prop} {pc : Nat} {ls : Array Slot} {rest : List Value}
theorem zz_seti {x : Int32} (y : Int32) (h : x = y) (k : W p l e R s m args below meth c H locs cells slots Q (F0 m pc ls (.int y :: rest))) : W p l e R s m args below meth c H locs cells slots Q (F0 m pc ls (.int x :: rest)) := h ▸ k
theorem zz_setl {x : Int64} (y : Int64) (h : x = y) (k : W p l e R s m args below meth c H locs cells slots Q (F0 m pc ls (.long y :: rest))) : W p l e R s m args below meth c H locs cells slots Q (F0 m pc ls (.long x :: rest)) := h ▸ k
theorem zz_setv {x : Value} (y : Value) (h : x = y) (k : W p l e R s m args below meth c H locs cells slots Q (F0 m pc ls (y :: rest))) : W p l e R s m args below meth c H locs cells slots Q (F0 m pc ls (x :: rest)) := h ▸ k
end ZW
theorem zz_vin {i : Int32} {n : Nat} (h : (decide (0 ≤ i) && decide (i.toNatClampNeg < n)) = true) : vp_in i n := by
  simp only [Bool.and_eq_true, decide_eq_true_eq] at h
  intro q
  rcases q with q | q
  · exact absurd q (by have := h.1; simp only [Int32.le_iff_toInt_le, Int32.lt_iff_toInt_lt] at *; omega)
  · exact absurd h.2 (Nat.not_lt.mpr q)
def zz_in (v lo hi : Int32) : Int32 := if lo ≤ v ∧ v ≤ hi then 1 else 0
theorem zz_in0 {v lo hi : Int32} : zz_in v lo hi = 0 ↔ ¬ (lo ≤ v ∧ v ≤ hi) := by
  unfold zz_in; split <;> rename_i h
  · constructor
    · intro q; exact absurd q (by decide)
    · intro q; exact absurd h q
  · exact ⟨fun _ => h, fun _ => rfl⟩
theorem zz_in1 {v lo hi : Int32} (h1 : lo ≤ v) (h2 : v ≤ hi) : zz_in v lo hi = 1 := by unfold zz_in; exact if_pos ⟨h1, h2⟩
theorem zz_inN {v lo hi : Int32} (h : ¬ (lo ≤ v ∧ v ≤ hi)) : zz_in v lo hi = 0 := by unfold zz_in; exact if_neg h
theorem zz_empty (v : Int32) : zz_in v 0 (-1) = 0 := zz_inN (by
  intro h
  have h1 := h.1; have h2 := h.2
  rw [Int32.le_iff_toInt_le] at h1 h2
  have e0 : (0 : Int32).toInt = 0 := by decide
  have e1 : (-1 : Int32).toInt = -1 := by decide
  omega)
theorem zz_ne {x y : Int32} (h : ¬ x = y) : x.toInt ≠ y.toInt := fun q => h (Int32.toInt_inj.mp q)
theorem zz_wide_lt (a b : Int32) : a.toInt64 < b.toInt64 ↔ a < b := by rw [Int64.lt_iff_toInt_lt, Int32.lt_iff_toInt_lt, Int32.toInt_toInt64, Int32.toInt_toInt64]
theorem zz_wide_le (a b : Int32) : a.toInt64 ≤ b.toInt64 ↔ a ≤ b := by rw [Int64.le_iff_toInt_le, Int32.le_iff_toInt_le, Int32.toInt_toInt64, Int32.toInt_toInt64]
theorem zz_wide_eq (a b : Int32) : a.toInt64 = b.toInt64 ↔ a = b := by rw [← Int64.toInt_inj, ← Int32.toInt_inj, Int32.toInt_toInt64, Int32.toInt_toInt64]
theorem zz_cmp_neg (a b : Int32) : lg_cmp a.toInt64 b.toInt64 < 0 ↔ ¬ b ≤ a := by
  rw [← zz_wide_le, ← lg_cmp_ge]
  simp only [Int32.lt_iff_toInt_lt, Int32.le_iff_toInt_le]
  omega
theorem zz_cmp_pos (a b : Int32) : 0 < lg_cmp a.toInt64 b.toInt64 ↔ ¬ a ≤ b := by
  rw [← zz_wide_le]
  unfold lg_cmp
  simp only [gt_iff_lt]
  by_cases h : b.toInt64 < a.toInt64
  · rw [if_pos h]
    rw [Int64.lt_iff_toInt_lt] at h
    rw [Int64.le_iff_toInt_le]
    constructor
    · intro _; omega
    · intro _; decide
  · rw [if_neg h]
    rw [Int64.lt_iff_toInt_lt] at h
    rw [Int64.le_iff_toInt_le]
    by_cases h2 : a.toInt64 = b.toInt64
    · rw [if_pos h2]
      constructor
      · intro q; exact absurd q (by decide)
      · intro q; omega
    · rw [if_neg h2]
      constructor
      · intro q; exact absurd q (by decide)
      · intro q; omega
theorem zz_clamp {x : Int32} {n : Nat} (h : vp_in x n) : x.toNatClampNeg < n := Nat.not_le.mp fun q => h (Or.inr q)
theorem zz_sub20 {x : Int32} (h1 : 20 ≤ x.toInt) (h2 : x.toInt ≤ 29) : vp_in (x - 20) 10 := by
  rw [vp_in_iff, Int32.toInt_sub, show (20 : Int32).toInt = 20 from by decide]
  have e : (x.toInt - 20).bmod (2 ^ 32) = x.toInt - 20 := by
    rw [Int.bmod_eq_of_le] <;> omega
  rw [e]; omega
section ZL
variable {p : Program} {l : Launch} {e : Env} {R : Room} {s : State} {m : MethodId} {args : Array Value} {below : List Frame} {meth : Method} {c : Code} {cells slots : Nat} {Q : State → Prop} {pc nL : Nat} {D : va_G} {A : Nat → Prop} {H0 : Heap}
theorem zz_loop (ws : Nat → va_W) (lv : Nat → List (Nat × Value)) (N : Nat)
    (hstep : ∀ j : Nat, j < N → ∀ (H : Heap) (locs : List Loc) (ls : Array Slot), va_P D vwCl (ws j) H → va_D A (ws j) → va_S A H0 H locs → lv_has ls nL (lv j) → (∀ (H : Heap) (locs : List Loc) (ls : Array Slot), va_P D vwCl (ws (j + 1)) H → va_D A (ws (j + 1)) → va_S A H0 H locs → lv_has ls nL (lv (j + 1)) → W p l e R s m args below meth c H locs cells slots Q (F0 m pc ls [])) → W p l e R s m args below meth c H locs cells slots Q (F0 m pc ls []))
    (hexit : ∀ (H : Heap) (locs : List Loc) (ls : Array Slot), va_P D vwCl (ws N) H → va_D A (ws N) → va_S A H0 H locs → lv_has ls nL (lv N) → W p l e R s m args below meth c H locs cells slots Q (F0 m pc ls [])) :
    ∀ (k j : Nat), j + k = N → ∀ (H : Heap) (locs : List Loc) (ls : Array Slot), va_P D vwCl (ws j) H → va_D A (ws j) → va_S A H0 H locs → lv_has ls nL (lv j) → W p l e R s m args below meth c H locs cells slots Q (F0 m pc ls []) := by
  intro k
  induction k with
  | zero =>
    intro j hj H locs ls hP hD hS hl
    have e : j = N := by omega
    subst e
    exact hexit H locs ls hP hD hS hl
  | succ k ih =>
    intro j hj H locs ls hP hD hS hl
    exact hstep j (by omega) H locs ls hP hD hS hl (ih (j + 1) (by omega))
end ZL
theorem zz_nz {x : Int32} (h : x = 0 ∨ x = 1) : narrow .boolean (.int x) = .int x := by rcases h with rfl | rfl <;> rfl
theorem zz_fz {x : Int32} (h : x = 0 ∨ x = 1) : fits .boolean (.int x) = true := by rcases h with rfl | rfl <;> rfl
