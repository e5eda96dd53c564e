theorem zz_put_s {V : Nat → Nat → Int32} {ad j : Nat} {x : Int32} : zz_put V ad j x ad j = x := by simp [zz_put, va_up]
theorem zz_put_o {V : Nat → Nat → Int32} {ad j k : Nat} {x : Int32} (h : ¬ k = j) : zz_put V ad j x ad k = V ad k := by simp [zz_put, va_up, h]
theorem zz_put_n {V : Nat → Nat → Int32} {ad ad2 j k : Nat} {x : Int32} (h : ¬ ad2 = ad) : zz_put V ad j x ad2 k = V ad2 k := by simp [zz_put, va_up, h]
theorem zz_up_s {f : Nat → Int32} {i : Nat} {x : Int32} : upd f i x i = x := by simp [upd]
theorem zz_up_n {f : Nat → Int32} {i k : Nat} {x : Int32} (h : ¬ k = i) : upd f i x k = f k := by simp [upd, h]
theorem zz_updc {f : Nat → Int32} {n : Nat} {x : Int32} (h : n < 2147483648) : upd f (Int32.toNatClampNeg (nI n)) x = upd f n x := by rw [zz_cl h]
theorem zz_upd0 {f : Nat → Int32} {n : Nat} : upd f n (f n) = f := by
  funext k
  by_cases e : k = n
  · rw [e, zz_up_s]
  · rw [zz_up_n e]
def zz_dj (a : Nat → Nat) : Prop := (∀ i j : Nat, i < 8 → j < 8 → ¬ i = j → ¬ a (2 + i) = a (2 + j)) ∧ (∀ i j : Nat, i < 12 → j < 12 → ¬ i = j → ¬ a (11 + i) = a (11 + j)) ∧ ∀ i j : Nat, i < 8 → j < 12 → ¬ a (2 + i) = a (11 + j)
def zz_RV (a : Nat → Nat) (V : Nat → Nat → Int32) (vh0 vh1 vh2 vh3 vh4 vh5 vh6 vh7 vh8 vf0 vf1 vf2 vf3 vf4 vf5 vf6 : Nat → Int32) : Prop := (∀ i : Nat, i < 8 → V (a (2 + i)) 0 = vh0 i ∧ V (a (2 + i)) 1 = vh1 i ∧ V (a (2 + i)) 2 = vh2 i ∧ V (a (2 + i)) 3 = vh3 i ∧ V (a (2 + i)) 4 = vh4 i ∧ V (a (2 + i)) 5 = vh5 i ∧ V (a (2 + i)) 6 = vh6 i ∧ V (a (2 + i)) 7 = vh7 i ∧ V (a (2 + i)) 8 = vh8 i) ∧ ∀ i : Nat, i < 12 → V (a (11 + i)) 0 = vf0 i ∧ V (a (11 + i)) 1 = vf1 i ∧ V (a (11 + i)) 2 = vf2 i ∧ V (a (11 + i)) 3 = vf3 i ∧ V (a (11 + i)) 4 = vf4 i ∧ V (a (11 + i)) 5 = vf5 i ∧ V (a (11 + i)) 6 = vf6 i
theorem zz_RVg4_0 {a : Nat → Nat} {V : Nat → Nat → Int32} {vh0 vh1 vh2 vh3 vh4 vh5 vh6 vh7 vh8 vf0 vf1 vf2 vf3 vf4 vf5 vf6 : Nat → Int32} {i : Nat} (h : zz_RV a V vh0 vh1 vh2 vh3 vh4 vh5 vh6 vh7 vh8 vf0 vf1 vf2 vf3 vf4 vf5 vf6) (hi : i < 8) : V (a (2 + i)) 0 = vh0 i := (h.1 i hi).1
theorem zz_RVg4_1 {a : Nat → Nat} {V : Nat → Nat → Int32} {vh0 vh1 vh2 vh3 vh4 vh5 vh6 vh7 vh8 vf0 vf1 vf2 vf3 vf4 vf5 vf6 : Nat → Int32} {i : Nat} (h : zz_RV a V vh0 vh1 vh2 vh3 vh4 vh5 vh6 vh7 vh8 vf0 vf1 vf2 vf3 vf4 vf5 vf6) (hi : i < 8) : V (a (2 + i)) 1 = vh1 i := (h.1 i hi).2.1
theorem zz_RVg4_2 {a : Nat → Nat} {V : Nat → Nat → Int32} {vh0 vh1 vh2 vh3 vh4 vh5 vh6 vh7 vh8 vf0 vf1 vf2 vf3 vf4 vf5 vf6 : Nat → Int32} {i : Nat} (h : zz_RV a V vh0 vh1 vh2 vh3 vh4 vh5 vh6 vh7 vh8 vf0 vf1 vf2 vf3 vf4 vf5 vf6) (hi : i < 8) : V (a (2 + i)) 2 = vh2 i := (h.1 i hi).2.2.1
theorem zz_RVg4_3 {a : Nat → Nat} {V : Nat → Nat → Int32} {vh0 vh1 vh2 vh3 vh4 vh5 vh6 vh7 vh8 vf0 vf1 vf2 vf3 vf4 vf5 vf6 : Nat → Int32} {i : Nat} (h : zz_RV a V vh0 vh1 vh2 vh3 vh4 vh5 vh6 vh7 vh8 vf0 vf1 vf2 vf3 vf4 vf5 vf6) (hi : i < 8) : V (a (2 + i)) 3 = vh3 i := (h.1 i hi).2.2.2.1
theorem zz_RVg4_4 {a : Nat → Nat} {V : Nat → Nat → Int32} {vh0 vh1 vh2 vh3 vh4 vh5 vh6 vh7 vh8 vf0 vf1 vf2 vf3 vf4 vf5 vf6 : Nat → Int32} {i : Nat} (h : zz_RV a V vh0 vh1 vh2 vh3 vh4 vh5 vh6 vh7 vh8 vf0 vf1 vf2 vf3 vf4 vf5 vf6) (hi : i < 8) : V (a (2 + i)) 4 = vh4 i := (h.1 i hi).2.2.2.2.1
theorem zz_RVg4_5 {a : Nat → Nat} {V : Nat → Nat → Int32} {vh0 vh1 vh2 vh3 vh4 vh5 vh6 vh7 vh8 vf0 vf1 vf2 vf3 vf4 vf5 vf6 : Nat → Int32} {i : Nat} (h : zz_RV a V vh0 vh1 vh2 vh3 vh4 vh5 vh6 vh7 vh8 vf0 vf1 vf2 vf3 vf4 vf5 vf6) (hi : i < 8) : V (a (2 + i)) 5 = vh5 i := (h.1 i hi).2.2.2.2.2.1
theorem zz_RVg4_6 {a : Nat → Nat} {V : Nat → Nat → Int32} {vh0 vh1 vh2 vh3 vh4 vh5 vh6 vh7 vh8 vf0 vf1 vf2 vf3 vf4 vf5 vf6 : Nat → Int32} {i : Nat} (h : zz_RV a V vh0 vh1 vh2 vh3 vh4 vh5 vh6 vh7 vh8 vf0 vf1 vf2 vf3 vf4 vf5 vf6) (hi : i < 8) : V (a (2 + i)) 6 = vh6 i := (h.1 i hi).2.2.2.2.2.2.1
theorem zz_RVg4_7 {a : Nat → Nat} {V : Nat → Nat → Int32} {vh0 vh1 vh2 vh3 vh4 vh5 vh6 vh7 vh8 vf0 vf1 vf2 vf3 vf4 vf5 vf6 : Nat → Int32} {i : Nat} (h : zz_RV a V vh0 vh1 vh2 vh3 vh4 vh5 vh6 vh7 vh8 vf0 vf1 vf2 vf3 vf4 vf5 vf6) (hi : i < 8) : V (a (2 + i)) 7 = vh7 i := (h.1 i hi).2.2.2.2.2.2.2.1
theorem zz_RVg4_8 {a : Nat → Nat} {V : Nat → Nat → Int32} {vh0 vh1 vh2 vh3 vh4 vh5 vh6 vh7 vh8 vf0 vf1 vf2 vf3 vf4 vf5 vf6 : Nat → Int32} {i : Nat} (h : zz_RV a V vh0 vh1 vh2 vh3 vh4 vh5 vh6 vh7 vh8 vf0 vf1 vf2 vf3 vf4 vf5 vf6) (hi : i < 8) : V (a (2 + i)) 8 = vh8 i := (h.1 i hi).2.2.2.2.2.2.2.2
theorem zz_RVp4_0 {a : Nat → Nat} {V : Nat → Nat → Int32} {vh0 vh1 vh2 vh3 vh4 vh5 vh6 vh7 vh8 vf0 vf1 vf2 vf3 vf4 vf5 vf6 : Nat → Int32} {i : Nat} {x : Int32} (hd : zz_dj a) (h : zz_RV a V vh0 vh1 vh2 vh3 vh4 vh5 vh6 vh7 vh8 vf0 vf1 vf2 vf3 vf4 vf5 vf6) (hi : i < 8) : zz_RV a (zz_put V (a (2 + i)) 0 x) (upd vh0 i x) vh1 vh2 vh3 vh4 vh5 vh6 vh7 vh8 vf0 vf1 vf2 vf3 vf4 vf5 vf6 := by
  refine ⟨fun q hq => ?_, fun q hq => ?_⟩
  · by_cases e : q = i
    · subst e
      obtain ⟨e0, e1, e2, e3, e4, e5, e6, e7, e8⟩ := h.1 q hq
      exact ⟨zz_put_s.trans zz_up_s.symm, (zz_put_o (by decide)).trans e1, (zz_put_o (by decide)).trans e2, (zz_put_o (by decide)).trans e3, (zz_put_o (by decide)).trans e4, (zz_put_o (by decide)).trans e5, (zz_put_o (by decide)).trans e6, (zz_put_o (by decide)).trans e7, (zz_put_o (by decide)).trans e8⟩
    · have hn : ¬ a (2 + q) = a (2 + i) := hd.1 q i hq hi e
      obtain ⟨e0, e1, e2, e3, e4, e5, e6, e7, e8⟩ := h.1 q hq
      exact ⟨(zz_put_n hn).trans (e0.trans (zz_up_n e).symm), (zz_put_n hn).trans e1, (zz_put_n hn).trans e2, (zz_put_n hn).trans e3, (zz_put_n hn).trans e4, (zz_put_n hn).trans e5, (zz_put_n hn).trans e6, (zz_put_n hn).trans e7, (zz_put_n hn).trans e8⟩
  · have hn : ¬ a (11 + q) = a (2 + i) := (fun z => hd.2.2 i q hi hq z.symm)
    obtain ⟨e0, e1, e2, e3, e4, e5, e6⟩ := h.2 q hq
    exact ⟨(zz_put_n hn).trans e0, (zz_put_n hn).trans e1, (zz_put_n hn).trans e2, (zz_put_n hn).trans e3, (zz_put_n hn).trans e4, (zz_put_n hn).trans e5, (zz_put_n hn).trans e6⟩
theorem zz_RVp4_1 {a : Nat → Nat} {V : Nat → Nat → Int32} {vh0 vh1 vh2 vh3 vh4 vh5 vh6 vh7 vh8 vf0 vf1 vf2 vf3 vf4 vf5 vf6 : Nat → Int32} {i : Nat} {x : Int32} (hd : zz_dj a) (h : zz_RV a V vh0 vh1 vh2 vh3 vh4 vh5 vh6 vh7 vh8 vf0 vf1 vf2 vf3 vf4 vf5 vf6) (hi : i < 8) : zz_RV a (zz_put V (a (2 + i)) 1 x) vh0 (upd vh1 i x) vh2 vh3 vh4 vh5 vh6 vh7 vh8 vf0 vf1 vf2 vf3 vf4 vf5 vf6 := by
  refine ⟨fun q hq => ?_, fun q hq => ?_⟩
  · by_cases e : q = i
    · subst e
      obtain ⟨e0, e1, e2, e3, e4, e5, e6, e7, e8⟩ := h.1 q hq
      exact ⟨(zz_put_o (by decide)).trans e0, zz_put_s.trans zz_up_s.symm, (zz_put_o (by decide)).trans e2, (zz_put_o (by decide)).trans e3, (zz_put_o (by decide)).trans e4, (zz_put_o (by decide)).trans e5, (zz_put_o (by decide)).trans e6, (zz_put_o (by decide)).trans e7, (zz_put_o (by decide)).trans e8⟩
    · have hn : ¬ a (2 + q) = a (2 + i) := hd.1 q i hq hi e
      obtain ⟨e0, e1, e2, e3, e4, e5, e6, e7, e8⟩ := h.1 q hq
      exact ⟨(zz_put_n hn).trans e0, (zz_put_n hn).trans (e1.trans (zz_up_n e).symm), (zz_put_n hn).trans e2, (zz_put_n hn).trans e3, (zz_put_n hn).trans e4, (zz_put_n hn).trans e5, (zz_put_n hn).trans e6, (zz_put_n hn).trans e7, (zz_put_n hn).trans e8⟩
  · have hn : ¬ a (11 + q) = a (2 + i) := (fun z => hd.2.2 i q hi hq z.symm)
    obtain ⟨e0, e1, e2, e3, e4, e5, e6⟩ := h.2 q hq
    exact ⟨(zz_put_n hn).trans e0, (zz_put_n hn).trans e1, (zz_put_n hn).trans e2, (zz_put_n hn).trans e3, (zz_put_n hn).trans e4, (zz_put_n hn).trans e5, (zz_put_n hn).trans e6⟩
theorem zz_RVp4_2 {a : Nat → Nat} {V : Nat → Nat → Int32} {vh0 vh1 vh2 vh3 vh4 vh5 vh6 vh7 vh8 vf0 vf1 vf2 vf3 vf4 vf5 vf6 : Nat → Int32} {i : Nat} {x : Int32} (hd : zz_dj a) (h : zz_RV a V vh0 vh1 vh2 vh3 vh4 vh5 vh6 vh7 vh8 vf0 vf1 vf2 vf3 vf4 vf5 vf6) (hi : i < 8) : zz_RV a (zz_put V (a (2 + i)) 2 x) vh0 vh1 (upd vh2 i x) vh3 vh4 vh5 vh6 vh7 vh8 vf0 vf1 vf2 vf3 vf4 vf5 vf6 := by
  refine ⟨fun q hq => ?_, fun q hq => ?_⟩
  · by_cases e : q = i
    · subst e
      obtain ⟨e0, e1, e2, e3, e4, e5, e6, e7, e8⟩ := h.1 q hq
      exact ⟨(zz_put_o (by decide)).trans e0, (zz_put_o (by decide)).trans e1, zz_put_s.trans zz_up_s.symm, (zz_put_o (by decide)).trans e3, (zz_put_o (by decide)).trans e4, (zz_put_o (by decide)).trans e5, (zz_put_o (by decide)).trans e6, (zz_put_o (by decide)).trans e7, (zz_put_o (by decide)).trans e8⟩
    · have hn : ¬ a (2 + q) = a (2 + i) := hd.1 q i hq hi e
      obtain ⟨e0, e1, e2, e3, e4, e5, e6, e7, e8⟩ := h.1 q hq
      exact ⟨(zz_put_n hn).trans e0, (zz_put_n hn).trans e1, (zz_put_n hn).trans (e2.trans (zz_up_n e).symm), (zz_put_n hn).trans e3, (zz_put_n hn).trans e4, (zz_put_n hn).trans e5, (zz_put_n hn).trans e6, (zz_put_n hn).trans e7, (zz_put_n hn).trans e8⟩
  · have hn : ¬ a (11 + q) = a (2 + i) := (fun z => hd.2.2 i q hi hq z.symm)
    obtain ⟨e0, e1, e2, e3, e4, e5, e6⟩ := h.2 q hq
    exact ⟨(zz_put_n hn).trans e0, (zz_put_n hn).trans e1, (zz_put_n hn).trans e2, (zz_put_n hn).trans e3, (zz_put_n hn).trans e4, (zz_put_n hn).trans e5, (zz_put_n hn).trans e6⟩
theorem zz_RVp4_3 {a : Nat → Nat} {V : Nat → Nat → Int32} {vh0 vh1 vh2 vh3 vh4 vh5 vh6 vh7 vh8 vf0 vf1 vf2 vf3 vf4 vf5 vf6 : Nat → Int32} {i : Nat} {x : Int32} (hd : zz_dj a) (h : zz_RV a V vh0 vh1 vh2 vh3 vh4 vh5 vh6 vh7 vh8 vf0 vf1 vf2 vf3 vf4 vf5 vf6) (hi : i < 8) : zz_RV a (zz_put V (a (2 + i)) 3 x) vh0 vh1 vh2 (upd vh3 i x) vh4 vh5 vh6 vh7 vh8 vf0 vf1 vf2 vf3 vf4 vf5 vf6 := by
  refine ⟨fun q hq => ?_, fun q hq => ?_⟩
  · by_cases e : q = i
    · subst e
      obtain ⟨e0, e1, e2, e3, e4, e5, e6, e7, e8⟩ := h.1 q hq
      exact ⟨(zz_put_o (by decide)).trans e0, (zz_put_o (by decide)).trans e1, (zz_put_o (by decide)).trans e2, zz_put_s.trans zz_up_s.symm, (zz_put_o (by decide)).trans e4, (zz_put_o (by decide)).trans e5, (zz_put_o (by decide)).trans e6, (zz_put_o (by decide)).trans e7, (zz_put_o (by decide)).trans e8⟩
    · have hn : ¬ a (2 + q) = a (2 + i) := hd.1 q i hq hi e
      obtain ⟨e0, e1, e2, e3, e4, e5, e6, e7, e8⟩ := h.1 q hq
      exact ⟨(zz_put_n hn).trans e0, (zz_put_n hn).trans e1, (zz_put_n hn).trans e2, (zz_put_n hn).trans (e3.trans (zz_up_n e).symm), (zz_put_n hn).trans e4, (zz_put_n hn).trans e5, (zz_put_n hn).trans e6, (zz_put_n hn).trans e7, (zz_put_n hn).trans e8⟩
  · have hn : ¬ a (11 + q) = a (2 + i) := (fun z => hd.2.2 i q hi hq z.symm)
    obtain ⟨e0, e1, e2, e3, e4, e5, e6⟩ := h.2 q hq
    exact ⟨(zz_put_n hn).trans e0, (zz_put_n hn).trans e1, (zz_put_n hn).trans e2, (zz_put_n hn).trans e3, (zz_put_n hn).trans e4, (zz_put_n hn).trans e5, (zz_put_n hn).trans e6⟩
theorem zz_RVp4_4 {a : Nat → Nat} {V : Nat → Nat → Int32} {vh0 vh1 vh2 vh3 vh4 vh5 vh6 vh7 vh8 vf0 vf1 vf2 vf3 vf4 vf5 vf6 : Nat → Int32} {i : Nat} {x : Int32} (hd : zz_dj a) (h : zz_RV a V vh0 vh1 vh2 vh3 vh4 vh5 vh6 vh7 vh8 vf0 vf1 vf2 vf3 vf4 vf5 vf6) (hi : i < 8) : zz_RV a (zz_put V (a (2 + i)) 4 x) vh0 vh1 vh2 vh3 (upd vh4 i x) vh5 vh6 vh7 vh8 vf0 vf1 vf2 vf3 vf4 vf5 vf6 := by
  refine ⟨fun q hq => ?_, fun q hq => ?_⟩
  · by_cases e : q = i
    · subst e
      obtain ⟨e0, e1, e2, e3, e4, e5, e6, e7, e8⟩ := h.1 q hq
      exact ⟨(zz_put_o (by decide)).trans e0, (zz_put_o (by decide)).trans e1, (zz_put_o (by decide)).trans e2, (zz_put_o (by decide)).trans e3, zz_put_s.trans zz_up_s.symm, (zz_put_o (by decide)).trans e5, (zz_put_o (by decide)).trans e6, (zz_put_o (by decide)).trans e7, (zz_put_o (by decide)).trans e8⟩
    · have hn : ¬ a (2 + q) = a (2 + i) := hd.1 q i hq hi e
      obtain ⟨e0, e1, e2, e3, e4, e5, e6, e7, e8⟩ := h.1 q hq
      exact ⟨(zz_put_n hn).trans e0, (zz_put_n hn).trans e1, (zz_put_n hn).trans e2, (zz_put_n hn).trans e3, (zz_put_n hn).trans (e4.trans (zz_up_n e).symm), (zz_put_n hn).trans e5, (zz_put_n hn).trans e6, (zz_put_n hn).trans e7, (zz_put_n hn).trans e8⟩
  · have hn : ¬ a (11 + q) = a (2 + i) := (fun z => hd.2.2 i q hi hq z.symm)
    obtain ⟨e0, e1, e2, e3, e4, e5, e6⟩ := h.2 q hq
    exact ⟨(zz_put_n hn).trans e0, (zz_put_n hn).trans e1, (zz_put_n hn).trans e2, (zz_put_n hn).trans e3, (zz_put_n hn).trans e4, (zz_put_n hn).trans e5, (zz_put_n hn).trans e6⟩
theorem zz_RVp4_5 {a : Nat → Nat} {V : Nat → Nat → Int32} {vh0 vh1 vh2 vh3 vh4 vh5 vh6 vh7 vh8 vf0 vf1 vf2 vf3 vf4 vf5 vf6 : Nat → Int32} {i : Nat} {x : Int32} (hd : zz_dj a) (h : zz_RV a V vh0 vh1 vh2 vh3 vh4 vh5 vh6 vh7 vh8 vf0 vf1 vf2 vf3 vf4 vf5 vf6) (hi : i < 8) : zz_RV a (zz_put V (a (2 + i)) 5 x) vh0 vh1 vh2 vh3 vh4 (upd vh5 i x) vh6 vh7 vh8 vf0 vf1 vf2 vf3 vf4 vf5 vf6 := by
  refine ⟨fun q hq => ?_, fun q hq => ?_⟩
  · by_cases e : q = i
    · subst e
      obtain ⟨e0, e1, e2, e3, e4, e5, e6, e7, e8⟩ := h.1 q hq
      exact ⟨(zz_put_o (by decide)).trans e0, (zz_put_o (by decide)).trans e1, (zz_put_o (by decide)).trans e2, (zz_put_o (by decide)).trans e3, (zz_put_o (by decide)).trans e4, zz_put_s.trans zz_up_s.symm, (zz_put_o (by decide)).trans e6, (zz_put_o (by decide)).trans e7, (zz_put_o (by decide)).trans e8⟩
    · have hn : ¬ a (2 + q) = a (2 + i) := hd.1 q i hq hi e
      obtain ⟨e0, e1, e2, e3, e4, e5, e6, e7, e8⟩ := h.1 q hq
      exact ⟨(zz_put_n hn).trans e0, (zz_put_n hn).trans e1, (zz_put_n hn).trans e2, (zz_put_n hn).trans e3, (zz_put_n hn).trans e4, (zz_put_n hn).trans (e5.trans (zz_up_n e).symm), (zz_put_n hn).trans e6, (zz_put_n hn).trans e7, (zz_put_n hn).trans e8⟩
  · have hn : ¬ a (11 + q) = a (2 + i) := (fun z => hd.2.2 i q hi hq z.symm)
    obtain ⟨e0, e1, e2, e3, e4, e5, e6⟩ := h.2 q hq
    exact ⟨(zz_put_n hn).trans e0, (zz_put_n hn).trans e1, (zz_put_n hn).trans e2, (zz_put_n hn).trans e3, (zz_put_n hn).trans e4, (zz_put_n hn).trans e5, (zz_put_n hn).trans e6⟩
theorem zz_RVp4_6 {a : Nat → Nat} {V : Nat → Nat → Int32} {vh0 vh1 vh2 vh3 vh4 vh5 vh6 vh7 vh8 vf0 vf1 vf2 vf3 vf4 vf5 vf6 : Nat → Int32} {i : Nat} {x : Int32} (hd : zz_dj a) (h : zz_RV a V vh0 vh1 vh2 vh3 vh4 vh5 vh6 vh7 vh8 vf0 vf1 vf2 vf3 vf4 vf5 vf6) (hi : i < 8) : zz_RV a (zz_put V (a (2 + i)) 6 x) vh0 vh1 vh2 vh3 vh4 vh5 (upd vh6 i x) vh7 vh8 vf0 vf1 vf2 vf3 vf4 vf5 vf6 := by
  refine ⟨fun q hq => ?_, fun q hq => ?_⟩
  · by_cases e : q = i
    · subst e
      obtain ⟨e0, e1, e2, e3, e4, e5, e6, e7, e8⟩ := h.1 q hq
      exact ⟨(zz_put_o (by decide)).trans e0, (zz_put_o (by decide)).trans e1, (zz_put_o (by decide)).trans e2, (zz_put_o (by decide)).trans e3, (zz_put_o (by decide)).trans e4, (zz_put_o (by decide)).trans e5, zz_put_s.trans zz_up_s.symm, (zz_put_o (by decide)).trans e7, (zz_put_o (by decide)).trans e8⟩
    · have hn : ¬ a (2 + q) = a (2 + i) := hd.1 q i hq hi e
      obtain ⟨e0, e1, e2, e3, e4, e5, e6, e7, e8⟩ := h.1 q hq
      exact ⟨(zz_put_n hn).trans e0, (zz_put_n hn).trans e1, (zz_put_n hn).trans e2, (zz_put_n hn).trans e3, (zz_put_n hn).trans e4, (zz_put_n hn).trans e5, (zz_put_n hn).trans (e6.trans (zz_up_n e).symm), (zz_put_n hn).trans e7, (zz_put_n hn).trans e8⟩
  · have hn : ¬ a (11 + q) = a (2 + i) := (fun z => hd.2.2 i q hi hq z.symm)
    obtain ⟨e0, e1, e2, e3, e4, e5, e6⟩ := h.2 q hq
    exact ⟨(zz_put_n hn).trans e0, (zz_put_n hn).trans e1, (zz_put_n hn).trans e2, (zz_put_n hn).trans e3, (zz_put_n hn).trans e4, (zz_put_n hn).trans e5, (zz_put_n hn).trans e6⟩
theorem zz_RVp4_7 {a : Nat → Nat} {V : Nat → Nat → Int32} {vh0 vh1 vh2 vh3 vh4 vh5 vh6 vh7 vh8 vf0 vf1 vf2 vf3 vf4 vf5 vf6 : Nat → Int32} {i : Nat} {x : Int32} (hd : zz_dj a) (h : zz_RV a V vh0 vh1 vh2 vh3 vh4 vh5 vh6 vh7 vh8 vf0 vf1 vf2 vf3 vf4 vf5 vf6) (hi : i < 8) : zz_RV a (zz_put V (a (2 + i)) 7 x) vh0 vh1 vh2 vh3 vh4 vh5 vh6 (upd vh7 i x) vh8 vf0 vf1 vf2 vf3 vf4 vf5 vf6 := by
  refine ⟨fun q hq => ?_, fun q hq => ?_⟩
  · by_cases e : q = i
    · subst e
      obtain ⟨e0, e1, e2, e3, e4, e5, e6, e7, e8⟩ := h.1 q hq
      exact ⟨(zz_put_o (by decide)).trans e0, (zz_put_o (by decide)).trans e1, (zz_put_o (by decide)).trans e2, (zz_put_o (by decide)).trans e3, (zz_put_o (by decide)).trans e4, (zz_put_o (by decide)).trans e5, (zz_put_o (by decide)).trans e6, zz_put_s.trans zz_up_s.symm, (zz_put_o (by decide)).trans e8⟩
    · have hn : ¬ a (2 + q) = a (2 + i) := hd.1 q i hq hi e
      obtain ⟨e0, e1, e2, e3, e4, e5, e6, e7, e8⟩ := h.1 q hq
      exact ⟨(zz_put_n hn).trans e0, (zz_put_n hn).trans e1, (zz_put_n hn).trans e2, (zz_put_n hn).trans e3, (zz_put_n hn).trans e4, (zz_put_n hn).trans e5, (zz_put_n hn).trans e6, (zz_put_n hn).trans (e7.trans (zz_up_n e).symm), (zz_put_n hn).trans e8⟩
  · have hn : ¬ a (11 + q) = a (2 + i) := (fun z => hd.2.2 i q hi hq z.symm)
    obtain ⟨e0, e1, e2, e3, e4, e5, e6⟩ := h.2 q hq
    exact ⟨(zz_put_n hn).trans e0, (zz_put_n hn).trans e1, (zz_put_n hn).trans e2, (zz_put_n hn).trans e3, (zz_put_n hn).trans e4, (zz_put_n hn).trans e5, (zz_put_n hn).trans e6⟩
theorem zz_RVp4_8 {a : Nat → Nat} {V : Nat → Nat → Int32} {vh0 vh1 vh2 vh3 vh4 vh5 vh6 vh7 vh8 vf0 vf1 vf2 vf3 vf4 vf5 vf6 : Nat → Int32} {i : Nat} {x : Int32} (hd : zz_dj a) (h : zz_RV a V vh0 vh1 vh2 vh3 vh4 vh5 vh6 vh7 vh8 vf0 vf1 vf2 vf3 vf4 vf5 vf6) (hi : i < 8) : zz_RV a (zz_put V (a (2 + i)) 8 x) vh0 vh1 vh2 vh3 vh4 vh5 vh6 vh7 (upd vh8 i x) vf0 vf1 vf2 vf3 vf4 vf5 vf6 := by
  refine ⟨fun q hq => ?_, fun q hq => ?_⟩
  · by_cases e : q = i
    · subst e
      obtain ⟨e0, e1, e2, e3, e4, e5, e6, e7, e8⟩ := h.1 q hq
      exact ⟨(zz_put_o (by decide)).trans e0, (zz_put_o (by decide)).trans e1, (zz_put_o (by decide)).trans e2, (zz_put_o (by decide)).trans e3, (zz_put_o (by decide)).trans e4, (zz_put_o (by decide)).trans e5, (zz_put_o (by decide)).trans e6, (zz_put_o (by decide)).trans e7, zz_put_s.trans zz_up_s.symm⟩
    · have hn : ¬ a (2 + q) = a (2 + i) := hd.1 q i hq hi e
      obtain ⟨e0, e1, e2, e3, e4, e5, e6, e7, e8⟩ := h.1 q hq
      exact ⟨(zz_put_n hn).trans e0, (zz_put_n hn).trans e1, (zz_put_n hn).trans e2, (zz_put_n hn).trans e3, (zz_put_n hn).trans e4, (zz_put_n hn).trans e5, (zz_put_n hn).trans e6, (zz_put_n hn).trans e7, (zz_put_n hn).trans (e8.trans (zz_up_n e).symm)⟩
  · have hn : ¬ a (11 + q) = a (2 + i) := (fun z => hd.2.2 i q hi hq z.symm)
    obtain ⟨e0, e1, e2, e3, e4, e5, e6⟩ := h.2 q hq
    exact ⟨(zz_put_n hn).trans e0, (zz_put_n hn).trans e1, (zz_put_n hn).trans e2, (zz_put_n hn).trans e3, (zz_put_n hn).trans e4, (zz_put_n hn).trans e5, (zz_put_n hn).trans e6⟩
theorem zz_RVg3_0 {a : Nat → Nat} {V : Nat → Nat → Int32} {vh0 vh1 vh2 vh3 vh4 vh5 vh6 vh7 vh8 vf0 vf1 vf2 vf3 vf4 vf5 vf6 : Nat → Int32} {i : Nat} (h : zz_RV a V vh0 vh1 vh2 vh3 vh4 vh5 vh6 vh7 vh8 vf0 vf1 vf2 vf3 vf4 vf5 vf6) (hi : i < 12) : V (a (11 + i)) 0 = vf0 i := (h.2 i hi).1
theorem zz_RVg3_1 {a : Nat → Nat} {V : Nat → Nat → Int32} {vh0 vh1 vh2 vh3 vh4 vh5 vh6 vh7 vh8 vf0 vf1 vf2 vf3 vf4 vf5 vf6 : Nat → Int32} {i : Nat} (h : zz_RV a V vh0 vh1 vh2 vh3 vh4 vh5 vh6 vh7 vh8 vf0 vf1 vf2 vf3 vf4 vf5 vf6) (hi : i < 12) : V (a (11 + i)) 1 = vf1 i := (h.2 i hi).2.1
theorem zz_RVg3_2 {a : Nat → Nat} {V : Nat → Nat → Int32} {vh0 vh1 vh2 vh3 vh4 vh5 vh6 vh7 vh8 vf0 vf1 vf2 vf3 vf4 vf5 vf6 : Nat → Int32} {i : Nat} (h : zz_RV a V vh0 vh1 vh2 vh3 vh4 vh5 vh6 vh7 vh8 vf0 vf1 vf2 vf3 vf4 vf5 vf6) (hi : i < 12) : V (a (11 + i)) 2 = vf2 i := (h.2 i hi).2.2.1
theorem zz_RVg3_3 {a : Nat → Nat} {V : Nat → Nat → Int32} {vh0 vh1 vh2 vh3 vh4 vh5 vh6 vh7 vh8 vf0 vf1 vf2 vf3 vf4 vf5 vf6 : Nat → Int32} {i : Nat} (h : zz_RV a V vh0 vh1 vh2 vh3 vh4 vh5 vh6 vh7 vh8 vf0 vf1 vf2 vf3 vf4 vf5 vf6) (hi : i < 12) : V (a (11 + i)) 3 = vf3 i := (h.2 i hi).2.2.2.1
theorem zz_RVg3_4 {a : Nat → Nat} {V : Nat → Nat → Int32} {vh0 vh1 vh2 vh3 vh4 vh5 vh6 vh7 vh8 vf0 vf1 vf2 vf3 vf4 vf5 vf6 : Nat → Int32} {i : Nat} (h : zz_RV a V vh0 vh1 vh2 vh3 vh4 vh5 vh6 vh7 vh8 vf0 vf1 vf2 vf3 vf4 vf5 vf6) (hi : i < 12) : V (a (11 + i)) 4 = vf4 i := (h.2 i hi).2.2.2.2.1
theorem zz_RVg3_5 {a : Nat → Nat} {V : Nat → Nat → Int32} {vh0 vh1 vh2 vh3 vh4 vh5 vh6 vh7 vh8 vf0 vf1 vf2 vf3 vf4 vf5 vf6 : Nat → Int32} {i : Nat} (h : zz_RV a V vh0 vh1 vh2 vh3 vh4 vh5 vh6 vh7 vh8 vf0 vf1 vf2 vf3 vf4 vf5 vf6) (hi : i < 12) : V (a (11 + i)) 5 = vf5 i := (h.2 i hi).2.2.2.2.2.1
theorem zz_RVg3_6 {a : Nat → Nat} {V : Nat → Nat → Int32} {vh0 vh1 vh2 vh3 vh4 vh5 vh6 vh7 vh8 vf0 vf1 vf2 vf3 vf4 vf5 vf6 : Nat → Int32} {i : Nat} (h : zz_RV a V vh0 vh1 vh2 vh3 vh4 vh5 vh6 vh7 vh8 vf0 vf1 vf2 vf3 vf4 vf5 vf6) (hi : i < 12) : V (a (11 + i)) 6 = vf6 i := (h.2 i hi).2.2.2.2.2.2
theorem zz_RVp3_0 {a : Nat → Nat} {V : Nat → Nat → Int32} {vh0 vh1 vh2 vh3 vh4 vh5 vh6 vh7 vh8 vf0 vf1 vf2 vf3 vf4 vf5 vf6 : Nat → Int32} {i : Nat} {x : Int32} (hd : zz_dj a) (h : zz_RV a V vh0 vh1 vh2 vh3 vh4 vh5 vh6 vh7 vh8 vf0 vf1 vf2 vf3 vf4 vf5 vf6) (hi : i < 12) : zz_RV a (zz_put V (a (11 + i)) 0 x) vh0 vh1 vh2 vh3 vh4 vh5 vh6 vh7 vh8 (upd vf0 i x) vf1 vf2 vf3 vf4 vf5 vf6 := by
  refine ⟨fun q hq => ?_, fun q hq => ?_⟩
  · have hn : ¬ a (2 + q) = a (11 + i) := (hd.2.2 q i hq hi)
    obtain ⟨e0, e1, e2, e3, e4, e5, e6, e7, e8⟩ := h.1 q hq
    exact ⟨(zz_put_n hn).trans e0, (zz_put_n hn).trans e1, (zz_put_n hn).trans e2, (zz_put_n hn).trans e3, (zz_put_n hn).trans e4, (zz_put_n hn).trans e5, (zz_put_n hn).trans e6, (zz_put_n hn).trans e7, (zz_put_n hn).trans e8⟩
  · by_cases e : q = i
    · subst e
      obtain ⟨e0, e1, e2, e3, e4, e5, e6⟩ := h.2 q hq
      exact ⟨zz_put_s.trans zz_up_s.symm, (zz_put_o (by decide)).trans e1, (zz_put_o (by decide)).trans e2, (zz_put_o (by decide)).trans e3, (zz_put_o (by decide)).trans e4, (zz_put_o (by decide)).trans e5, (zz_put_o (by decide)).trans e6⟩
    · have hn : ¬ a (11 + q) = a (11 + i) := hd.2.1 q i hq hi e
      obtain ⟨e0, e1, e2, e3, e4, e5, e6⟩ := h.2 q hq
      exact ⟨(zz_put_n hn).trans (e0.trans (zz_up_n e).symm), (zz_put_n hn).trans e1, (zz_put_n hn).trans e2, (zz_put_n hn).trans e3, (zz_put_n hn).trans e4, (zz_put_n hn).trans e5, (zz_put_n hn).trans e6⟩
theorem zz_RVp3_1 {a : Nat → Nat} {V : Nat → Nat → Int32} {vh0 vh1 vh2 vh3 vh4 vh5 vh6 vh7 vh8 vf0 vf1 vf2 vf3 vf4 vf5 vf6 : Nat → Int32} {i : Nat} {x : Int32} (hd : zz_dj a) (h : zz_RV a V vh0 vh1 vh2 vh3 vh4 vh5 vh6 vh7 vh8 vf0 vf1 vf2 vf3 vf4 vf5 vf6) (hi : i < 12) : zz_RV a (zz_put V (a (11 + i)) 1 x) vh0 vh1 vh2 vh3 vh4 vh5 vh6 vh7 vh8 vf0 (upd vf1 i x) vf2 vf3 vf4 vf5 vf6 := by
  refine ⟨fun q hq => ?_, fun q hq => ?_⟩
  · have hn : ¬ a (2 + q) = a (11 + i) := (hd.2.2 q i hq hi)
    obtain ⟨e0, e1, e2, e3, e4, e5, e6, e7, e8⟩ := h.1 q hq
    exact ⟨(zz_put_n hn).trans e0, (zz_put_n hn).trans e1, (zz_put_n hn).trans e2, (zz_put_n hn).trans e3, (zz_put_n hn).trans e4, (zz_put_n hn).trans e5, (zz_put_n hn).trans e6, (zz_put_n hn).trans e7, (zz_put_n hn).trans e8⟩
  · by_cases e : q = i
    · subst e
      obtain ⟨e0, e1, e2, e3, e4, e5, e6⟩ := h.2 q hq
      exact ⟨(zz_put_o (by decide)).trans e0, zz_put_s.trans zz_up_s.symm, (zz_put_o (by decide)).trans e2, (zz_put_o (by decide)).trans e3, (zz_put_o (by decide)).trans e4, (zz_put_o (by decide)).trans e5, (zz_put_o (by decide)).trans e6⟩
    · have hn : ¬ a (11 + q) = a (11 + i) := hd.2.1 q i hq hi e
      obtain ⟨e0, e1, e2, e3, e4, e5, e6⟩ := h.2 q hq
      exact ⟨(zz_put_n hn).trans e0, (zz_put_n hn).trans (e1.trans (zz_up_n e).symm), (zz_put_n hn).trans e2, (zz_put_n hn).trans e3, (zz_put_n hn).trans e4, (zz_put_n hn).trans e5, (zz_put_n hn).trans e6⟩
theorem zz_RVp3_2 {a : Nat → Nat} {V : Nat → Nat → Int32} {vh0 vh1 vh2 vh3 vh4 vh5 vh6 vh7 vh8 vf0 vf1 vf2 vf3 vf4 vf5 vf6 : Nat → Int32} {i : Nat} {x : Int32} (hd : zz_dj a) (h : zz_RV a V vh0 vh1 vh2 vh3 vh4 vh5 vh6 vh7 vh8 vf0 vf1 vf2 vf3 vf4 vf5 vf6) (hi : i < 12) : zz_RV a (zz_put V (a (11 + i)) 2 x) vh0 vh1 vh2 vh3 vh4 vh5 vh6 vh7 vh8 vf0 vf1 (upd vf2 i x) vf3 vf4 vf5 vf6 := by
  refine ⟨fun q hq => ?_, fun q hq => ?_⟩
  · have hn : ¬ a (2 + q) = a (11 + i) := (hd.2.2 q i hq hi)
    obtain ⟨e0, e1, e2, e3, e4, e5, e6, e7, e8⟩ := h.1 q hq
    exact ⟨(zz_put_n hn).trans e0, (zz_put_n hn).trans e1, (zz_put_n hn).trans e2, (zz_put_n hn).trans e3, (zz_put_n hn).trans e4, (zz_put_n hn).trans e5, (zz_put_n hn).trans e6, (zz_put_n hn).trans e7, (zz_put_n hn).trans e8⟩
  · by_cases e : q = i
    · subst e
      obtain ⟨e0, e1, e2, e3, e4, e5, e6⟩ := h.2 q hq
      exact ⟨(zz_put_o (by decide)).trans e0, (zz_put_o (by decide)).trans e1, zz_put_s.trans zz_up_s.symm, (zz_put_o (by decide)).trans e3, (zz_put_o (by decide)).trans e4, (zz_put_o (by decide)).trans e5, (zz_put_o (by decide)).trans e6⟩
    · have hn : ¬ a (11 + q) = a (11 + i) := hd.2.1 q i hq hi e
      obtain ⟨e0, e1, e2, e3, e4, e5, e6⟩ := h.2 q hq
      exact ⟨(zz_put_n hn).trans e0, (zz_put_n hn).trans e1, (zz_put_n hn).trans (e2.trans (zz_up_n e).symm), (zz_put_n hn).trans e3, (zz_put_n hn).trans e4, (zz_put_n hn).trans e5, (zz_put_n hn).trans e6⟩
theorem zz_RVp3_3 {a : Nat → Nat} {V : Nat → Nat → Int32} {vh0 vh1 vh2 vh3 vh4 vh5 vh6 vh7 vh8 vf0 vf1 vf2 vf3 vf4 vf5 vf6 : Nat → Int32} {i : Nat} {x : Int32} (hd : zz_dj a) (h : zz_RV a V vh0 vh1 vh2 vh3 vh4 vh5 vh6 vh7 vh8 vf0 vf1 vf2 vf3 vf4 vf5 vf6) (hi : i < 12) : zz_RV a (zz_put V (a (11 + i)) 3 x) vh0 vh1 vh2 vh3 vh4 vh5 vh6 vh7 vh8 vf0 vf1 vf2 (upd vf3 i x) vf4 vf5 vf6 := by
  refine ⟨fun q hq => ?_, fun q hq => ?_⟩
  · have hn : ¬ a (2 + q) = a (11 + i) := (hd.2.2 q i hq hi)
    obtain ⟨e0, e1, e2, e3, e4, e5, e6, e7, e8⟩ := h.1 q hq
    exact ⟨(zz_put_n hn).trans e0, (zz_put_n hn).trans e1, (zz_put_n hn).trans e2, (zz_put_n hn).trans e3, (zz_put_n hn).trans e4, (zz_put_n hn).trans e5, (zz_put_n hn).trans e6, (zz_put_n hn).trans e7, (zz_put_n hn).trans e8⟩
  · by_cases e : q = i
    · subst e
      obtain ⟨e0, e1, e2, e3, e4, e5, e6⟩ := h.2 q hq
      exact ⟨(zz_put_o (by decide)).trans e0, (zz_put_o (by decide)).trans e1, (zz_put_o (by decide)).trans e2, zz_put_s.trans zz_up_s.symm, (zz_put_o (by decide)).trans e4, (zz_put_o (by decide)).trans e5, (zz_put_o (by decide)).trans e6⟩
    · have hn : ¬ a (11 + q) = a (11 + i) := hd.2.1 q i hq hi e
      obtain ⟨e0, e1, e2, e3, e4, e5, e6⟩ := h.2 q hq
      exact ⟨(zz_put_n hn).trans e0, (zz_put_n hn).trans e1, (zz_put_n hn).trans e2, (zz_put_n hn).trans (e3.trans (zz_up_n e).symm), (zz_put_n hn).trans e4, (zz_put_n hn).trans e5, (zz_put_n hn).trans e6⟩
theorem zz_RVp3_4 {a : Nat → Nat} {V : Nat → Nat → Int32} {vh0 vh1 vh2 vh3 vh4 vh5 vh6 vh7 vh8 vf0 vf1 vf2 vf3 vf4 vf5 vf6 : Nat → Int32} {i : Nat} {x : Int32} (hd : zz_dj a) (h : zz_RV a V vh0 vh1 vh2 vh3 vh4 vh5 vh6 vh7 vh8 vf0 vf1 vf2 vf3 vf4 vf5 vf6) (hi : i < 12) : zz_RV a (zz_put V (a (11 + i)) 4 x) vh0 vh1 vh2 vh3 vh4 vh5 vh6 vh7 vh8 vf0 vf1 vf2 vf3 (upd vf4 i x) vf5 vf6 := by
  refine ⟨fun q hq => ?_, fun q hq => ?_⟩
  · have hn : ¬ a (2 + q) = a (11 + i) := (hd.2.2 q i hq hi)
    obtain ⟨e0, e1, e2, e3, e4, e5, e6, e7, e8⟩ := h.1 q hq
    exact ⟨(zz_put_n hn).trans e0, (zz_put_n hn).trans e1, (zz_put_n hn).trans e2, (zz_put_n hn).trans e3, (zz_put_n hn).trans e4, (zz_put_n hn).trans e5, (zz_put_n hn).trans e6, (zz_put_n hn).trans e7, (zz_put_n hn).trans e8⟩
  · by_cases e : q = i
    · subst e
      obtain ⟨e0, e1, e2, e3, e4, e5, e6⟩ := h.2 q hq
      exact ⟨(zz_put_o (by decide)).trans e0, (zz_put_o (by decide)).trans e1, (zz_put_o (by decide)).trans e2, (zz_put_o (by decide)).trans e3, zz_put_s.trans zz_up_s.symm, (zz_put_o (by decide)).trans e5, (zz_put_o (by decide)).trans e6⟩
    · have hn : ¬ a (11 + q) = a (11 + i) := hd.2.1 q i hq hi e
      obtain ⟨e0, e1, e2, e3, e4, e5, e6⟩ := h.2 q hq
      exact ⟨(zz_put_n hn).trans e0, (zz_put_n hn).trans e1, (zz_put_n hn).trans e2, (zz_put_n hn).trans e3, (zz_put_n hn).trans (e4.trans (zz_up_n e).symm), (zz_put_n hn).trans e5, (zz_put_n hn).trans e6⟩
theorem zz_RVp3_5 {a : Nat → Nat} {V : Nat → Nat → Int32} {vh0 vh1 vh2 vh3 vh4 vh5 vh6 vh7 vh8 vf0 vf1 vf2 vf3 vf4 vf5 vf6 : Nat → Int32} {i : Nat} {x : Int32} (hd : zz_dj a) (h : zz_RV a V vh0 vh1 vh2 vh3 vh4 vh5 vh6 vh7 vh8 vf0 vf1 vf2 vf3 vf4 vf5 vf6) (hi : i < 12) : zz_RV a (zz_put V (a (11 + i)) 5 x) vh0 vh1 vh2 vh3 vh4 vh5 vh6 vh7 vh8 vf0 vf1 vf2 vf3 vf4 (upd vf5 i x) vf6 := by
  refine ⟨fun q hq => ?_, fun q hq => ?_⟩
  · have hn : ¬ a (2 + q) = a (11 + i) := (hd.2.2 q i hq hi)
    obtain ⟨e0, e1, e2, e3, e4, e5, e6, e7, e8⟩ := h.1 q hq
    exact ⟨(zz_put_n hn).trans e0, (zz_put_n hn).trans e1, (zz_put_n hn).trans e2, (zz_put_n hn).trans e3, (zz_put_n hn).trans e4, (zz_put_n hn).trans e5, (zz_put_n hn).trans e6, (zz_put_n hn).trans e7, (zz_put_n hn).trans e8⟩
  · by_cases e : q = i
    · subst e
      obtain ⟨e0, e1, e2, e3, e4, e5, e6⟩ := h.2 q hq
      exact ⟨(zz_put_o (by decide)).trans e0, (zz_put_o (by decide)).trans e1, (zz_put_o (by decide)).trans e2, (zz_put_o (by decide)).trans e3, (zz_put_o (by decide)).trans e4, zz_put_s.trans zz_up_s.symm, (zz_put_o (by decide)).trans e6⟩
    · have hn : ¬ a (11 + q) = a (11 + i) := hd.2.1 q i hq hi e
      obtain ⟨e0, e1, e2, e3, e4, e5, e6⟩ := h.2 q hq
      exact ⟨(zz_put_n hn).trans e0, (zz_put_n hn).trans e1, (zz_put_n hn).trans e2, (zz_put_n hn).trans e3, (zz_put_n hn).trans e4, (zz_put_n hn).trans (e5.trans (zz_up_n e).symm), (zz_put_n hn).trans e6⟩
theorem zz_RVp3_6 {a : Nat → Nat} {V : Nat → Nat → Int32} {vh0 vh1 vh2 vh3 vh4 vh5 vh6 vh7 vh8 vf0 vf1 vf2 vf3 vf4 vf5 vf6 : Nat → Int32} {i : Nat} {x : Int32} (hd : zz_dj a) (h : zz_RV a V vh0 vh1 vh2 vh3 vh4 vh5 vh6 vh7 vh8 vf0 vf1 vf2 vf3 vf4 vf5 vf6) (hi : i < 12) : zz_RV a (zz_put V (a (11 + i)) 6 x) vh0 vh1 vh2 vh3 vh4 vh5 vh6 vh7 vh8 vf0 vf1 vf2 vf3 vf4 vf5 (upd vf6 i x) := by
  refine ⟨fun q hq => ?_, fun q hq => ?_⟩
  · have hn : ¬ a (2 + q) = a (11 + i) := (hd.2.2 q i hq hi)
    obtain ⟨e0, e1, e2, e3, e4, e5, e6, e7, e8⟩ := h.1 q hq
    exact ⟨(zz_put_n hn).trans e0, (zz_put_n hn).trans e1, (zz_put_n hn).trans e2, (zz_put_n hn).trans e3, (zz_put_n hn).trans e4, (zz_put_n hn).trans e5, (zz_put_n hn).trans e6, (zz_put_n hn).trans e7, (zz_put_n hn).trans e8⟩
  · by_cases e : q = i
    · subst e
      obtain ⟨e0, e1, e2, e3, e4, e5, e6⟩ := h.2 q hq
      exact ⟨(zz_put_o (by decide)).trans e0, (zz_put_o (by decide)).trans e1, (zz_put_o (by decide)).trans e2, (zz_put_o (by decide)).trans e3, (zz_put_o (by decide)).trans e4, (zz_put_o (by decide)).trans e5, zz_put_s.trans zz_up_s.symm⟩
    · have hn : ¬ a (11 + q) = a (11 + i) := hd.2.1 q i hq hi e
      obtain ⟨e0, e1, e2, e3, e4, e5, e6⟩ := h.2 q hq
      exact ⟨(zz_put_n hn).trans e0, (zz_put_n hn).trans e1, (zz_put_n hn).trans e2, (zz_put_n hn).trans e3, (zz_put_n hn).trans e4, (zz_put_n hn).trans e5, (zz_put_n hn).trans (e6.trans (zz_up_n e).symm)⟩
theorem zz_RV_to {a : Nat → Nat} {V : Nat → Nat → Int32} {vh0 vh1 vh2 vh3 vh4 vh5 vh6 vh7 vh8 vf0 vf1 vf2 vf3 vf4 vf5 vf6 wh0 wh1 wh2 wh3 wh4 wh5 wh6 wh7 wh8 wf0 wf1 wf2 wf3 wf4 wf5 wf6 : Nat → Int32} (h : zz_RV a V vh0 vh1 vh2 vh3 vh4 vh5 vh6 vh7 vh8 vf0 vf1 vf2 vf3 vf4 vf5 vf6) (eh : ∀ i : Nat, i < 8 → vh0 i = wh0 i ∧ vh1 i = wh1 i ∧ vh2 i = wh2 i ∧ vh3 i = wh3 i ∧ vh4 i = wh4 i ∧ vh5 i = wh5 i ∧ vh6 i = wh6 i ∧ vh7 i = wh7 i ∧ vh8 i = wh8 i) (ef : ∀ i : Nat, i < 12 → vf0 i = wf0 i ∧ vf1 i = wf1 i ∧ vf2 i = wf2 i ∧ vf3 i = wf3 i ∧ vf4 i = wf4 i ∧ vf5 i = wf5 i ∧ vf6 i = wf6 i) : zz_RV a V wh0 wh1 wh2 wh3 wh4 wh5 wh6 wh7 wh8 wf0 wf1 wf2 wf3 wf4 wf5 wf6 := by
  refine ⟨fun q hq => ?_, fun q hq => ?_⟩
  · obtain ⟨e0, e1, e2, e3, e4, e5, e6, e7, e8⟩ := h.1 q hq
    obtain ⟨g0, g1, g2, g3, g4, g5, g6, g7, g8⟩ := eh q hq
    exact ⟨e0.trans g0, e1.trans g1, e2.trans g2, e3.trans g3, e4.trans g4, e5.trans g5, e6.trans g6, e7.trans g7, e8.trans g8⟩
  · obtain ⟨e0, e1, e2, e3, e4, e5, e6⟩ := h.2 q hq
    obtain ⟨g0, g1, g2, g3, g4, g5, g6⟩ := ef q hq
    exact ⟨e0.trans g0, e1.trans g1, e2.trans g2, e3.trans g3, e4.trans g4, e5.trans g5, e6.trans g6⟩
