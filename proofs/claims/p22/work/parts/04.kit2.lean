def zz_ob (k : Nat) (v : Nat → Int32) : va_E := if k = 4 then .inr (4, [.int (v 0), .int (v 1), .int (v 2), .int (v 3), .int (v 4), .int (v 5), .int (v 6), .int (v 7), .int (v 8)]) else .inr (3, [.int (v 0), .int (v 1), .int (v 2), .int (v 3), .int (v 4), .int (v 5), .int (v 6)])
def zz_F (K : Nat → Nat) (V : Nat → Nat → Int32) : Nat → va_E := fun ad => zz_ob (K ad) (V ad)
def zz_put (V : Nat → Nat → Int32) (ad j : Nat) (x : Int32) : Nat → Nat → Int32 := va_up V ad (va_up (V ad) j x)
theorem zz_F4 {K : Nat → Nat} {V : Nat → Nat → Int32} {ad : Nat} (hk : K ad = 4) : zz_F K V ad = .inr (4, [.int (V ad 0), .int (V ad 1), .int (V ad 2), .int (V ad 3), .int (V ad 4), .int (V ad 5), .int (V ad 6), .int (V ad 7), .int (V ad 8)]) := by simp [zz_F, zz_ob, hk]
theorem zz_pg4 {X : va_W} {L : List Nat} {K : Nat → Nat} {V : Nat → Nat → Int32} {ad : Nat} (hm : ad ∈ L) (hk : K ad = 4) : ∃ k : Nat, (X ++ va_pl L (zz_F K V))[k]? = some (ad, .inr (4, [.int (V ad 0), .int (V ad 1), .int (V ad 2), .int (V ad 3), .int (V ad 4), .int (V ad 5), .int (V ad 6), .int (V ad 7), .int (V ad 8)])) := by
  obtain ⟨k, h⟩ := va_pl_get (X := X) (f := zz_F K V) hm
  exact ⟨k, by rw [h, zz_F4 hk]⟩
theorem zz_ps4_0 {A : Nat → Prop} {X : va_W} {L : List Nat} {K : Nat → Nat} {V : Nat → Nat → Int32} {ad k : Nat} {x : Int32} (hD : va_D A (X ++ va_pl L (zz_F K V))) (hm : ad ∈ L) (hk : K ad = 4) (hq : (X ++ va_pl L (zz_F K V))[k]? = some (ad, .inr (4, [.int (V ad 0), .int (V ad 1), .int (V ad 2), .int (V ad 3), .int (V ad 4), .int (V ad 5), .int (V ad 6), .int (V ad 7), .int (V ad 8)]))) : (X ++ va_pl L (zz_F K V)).set k (ad, .inr (4, [.int x, .int (V ad 1), .int (V ad 2), .int (V ad 3), .int (V ad 4), .int (V ad 5), .int (V ad 6), .int (V ad 7), .int (V ad 8)])) = X ++ va_pl L (zz_F K (zz_put V ad 0 x)) := by
  rw [va_pl_set hD hm (by rw [hq, zz_F4 hk])]
  refine congrArg (fun l => X ++ l) (va_pl_congr (fun b => ?_))
  by_cases hb : b = ad
  · subst hb
    rw [va_up_self, zz_F4 hk]
    simp [zz_put, va_up]
  · simp [va_up, hb, zz_F, zz_put]
theorem zz_ps4_1 {A : Nat → Prop} {X : va_W} {L : List Nat} {K : Nat → Nat} {V : Nat → Nat → Int32} {ad k : Nat} {x : Int32} (hD : va_D A (X ++ va_pl L (zz_F K V))) (hm : ad ∈ L) (hk : K ad = 4) (hq : (X ++ va_pl L (zz_F K V))[k]? = some (ad, .inr (4, [.int (V ad 0), .int (V ad 1), .int (V ad 2), .int (V ad 3), .int (V ad 4), .int (V ad 5), .int (V ad 6), .int (V ad 7), .int (V ad 8)]))) : (X ++ va_pl L (zz_F K V)).set k (ad, .inr (4, [.int (V ad 0), .int x, .int (V ad 2), .int (V ad 3), .int (V ad 4), .int (V ad 5), .int (V ad 6), .int (V ad 7), .int (V ad 8)])) = X ++ va_pl L (zz_F K (zz_put V ad 1 x)) := by
  rw [va_pl_set hD hm (by rw [hq, zz_F4 hk])]
  refine congrArg (fun l => X ++ l) (va_pl_congr (fun b => ?_))
  by_cases hb : b = ad
  · subst hb
    rw [va_up_self, zz_F4 hk]
    simp [zz_put, va_up]
  · simp [va_up, hb, zz_F, zz_put]
theorem zz_ps4_2 {A : Nat → Prop} {X : va_W} {L : List Nat} {K : Nat → Nat} {V : Nat → Nat → Int32} {ad k : Nat} {x : Int32} (hD : va_D A (X ++ va_pl L (zz_F K V))) (hm : ad ∈ L) (hk : K ad = 4) (hq : (X ++ va_pl L (zz_F K V))[k]? = some (ad, .inr (4, [.int (V ad 0), .int (V ad 1), .int (V ad 2), .int (V ad 3), .int (V ad 4), .int (V ad 5), .int (V ad 6), .int (V ad 7), .int (V ad 8)]))) : (X ++ va_pl L (zz_F K V)).set k (ad, .inr (4, [.int (V ad 0), .int (V ad 1), .int x, .int (V ad 3), .int (V ad 4), .int (V ad 5), .int (V ad 6), .int (V ad 7), .int (V ad 8)])) = X ++ va_pl L (zz_F K (zz_put V ad 2 x)) := by
  rw [va_pl_set hD hm (by rw [hq, zz_F4 hk])]
  refine congrArg (fun l => X ++ l) (va_pl_congr (fun b => ?_))
  by_cases hb : b = ad
  · subst hb
    rw [va_up_self, zz_F4 hk]
    simp [zz_put, va_up]
  · simp [va_up, hb, zz_F, zz_put]
theorem zz_ps4_3 {A : Nat → Prop} {X : va_W} {L : List Nat} {K : Nat → Nat} {V : Nat → Nat → Int32} {ad k : Nat} {x : Int32} (hD : va_D A (X ++ va_pl L (zz_F K V))) (hm : ad ∈ L) (hk : K ad = 4) (hq : (X ++ va_pl L (zz_F K V))[k]? = some (ad, .inr (4, [.int (V ad 0), .int (V ad 1), .int (V ad 2), .int (V ad 3), .int (V ad 4), .int (V ad 5), .int (V ad 6), .int (V ad 7), .int (V ad 8)]))) : (X ++ va_pl L (zz_F K V)).set k (ad, .inr (4, [.int (V ad 0), .int (V ad 1), .int (V ad 2), .int x, .int (V ad 4), .int (V ad 5), .int (V ad 6), .int (V ad 7), .int (V ad 8)])) = X ++ va_pl L (zz_F K (zz_put V ad 3 x)) := by
  rw [va_pl_set hD hm (by rw [hq, zz_F4 hk])]
  refine congrArg (fun l => X ++ l) (va_pl_congr (fun b => ?_))
  by_cases hb : b = ad
  · subst hb
    rw [va_up_self, zz_F4 hk]
    simp [zz_put, va_up]
  · simp [va_up, hb, zz_F, zz_put]
theorem zz_ps4_4 {A : Nat → Prop} {X : va_W} {L : List Nat} {K : Nat → Nat} {V : Nat → Nat → Int32} {ad k : Nat} {x : Int32} (hD : va_D A (X ++ va_pl L (zz_F K V))) (hm : ad ∈ L) (hk : K ad = 4) (hq : (X ++ va_pl L (zz_F K V))[k]? = some (ad, .inr (4, [.int (V ad 0), .int (V ad 1), .int (V ad 2), .int (V ad 3), .int (V ad 4), .int (V ad 5), .int (V ad 6), .int (V ad 7), .int (V ad 8)]))) : (X ++ va_pl L (zz_F K V)).set k (ad, .inr (4, [.int (V ad 0), .int (V ad 1), .int (V ad 2), .int (V ad 3), .int x, .int (V ad 5), .int (V ad 6), .int (V ad 7), .int (V ad 8)])) = X ++ va_pl L (zz_F K (zz_put V ad 4 x)) := by
  rw [va_pl_set hD hm (by rw [hq, zz_F4 hk])]
  refine congrArg (fun l => X ++ l) (va_pl_congr (fun b => ?_))
  by_cases hb : b = ad
  · subst hb
    rw [va_up_self, zz_F4 hk]
    simp [zz_put, va_up]
  · simp [va_up, hb, zz_F, zz_put]
theorem zz_ps4_5 {A : Nat → Prop} {X : va_W} {L : List Nat} {K : Nat → Nat} {V : Nat → Nat → Int32} {ad k : Nat} {x : Int32} (hD : va_D A (X ++ va_pl L (zz_F K V))) (hm : ad ∈ L) (hk : K ad = 4) (hq : (X ++ va_pl L (zz_F K V))[k]? = some (ad, .inr (4, [.int (V ad 0), .int (V ad 1), .int (V ad 2), .int (V ad 3), .int (V ad 4), .int (V ad 5), .int (V ad 6), .int (V ad 7), .int (V ad 8)]))) : (X ++ va_pl L (zz_F K V)).set k (ad, .inr (4, [.int (V ad 0), .int (V ad 1), .int (V ad 2), .int (V ad 3), .int (V ad 4), .int x, .int (V ad 6), .int (V ad 7), .int (V ad 8)])) = X ++ va_pl L (zz_F K (zz_put V ad 5 x)) := by
  rw [va_pl_set hD hm (by rw [hq, zz_F4 hk])]
  refine congrArg (fun l => X ++ l) (va_pl_congr (fun b => ?_))
  by_cases hb : b = ad
  · subst hb
    rw [va_up_self, zz_F4 hk]
    simp [zz_put, va_up]
  · simp [va_up, hb, zz_F, zz_put]
theorem zz_ps4_6 {A : Nat → Prop} {X : va_W} {L : List Nat} {K : Nat → Nat} {V : Nat → Nat → Int32} {ad k : Nat} {x : Int32} (hD : va_D A (X ++ va_pl L (zz_F K V))) (hm : ad ∈ L) (hk : K ad = 4) (hq : (X ++ va_pl L (zz_F K V))[k]? = some (ad, .inr (4, [.int (V ad 0), .int (V ad 1), .int (V ad 2), .int (V ad 3), .int (V ad 4), .int (V ad 5), .int (V ad 6), .int (V ad 7), .int (V ad 8)]))) : (X ++ va_pl L (zz_F K V)).set k (ad, .inr (4, [.int (V ad 0), .int (V ad 1), .int (V ad 2), .int (V ad 3), .int (V ad 4), .int (V ad 5), .int x, .int (V ad 7), .int (V ad 8)])) = X ++ va_pl L (zz_F K (zz_put V ad 6 x)) := by
  rw [va_pl_set hD hm (by rw [hq, zz_F4 hk])]
  refine congrArg (fun l => X ++ l) (va_pl_congr (fun b => ?_))
  by_cases hb : b = ad
  · subst hb
    rw [va_up_self, zz_F4 hk]
    simp [zz_put, va_up]
  · simp [va_up, hb, zz_F, zz_put]
theorem zz_ps4_7 {A : Nat → Prop} {X : va_W} {L : List Nat} {K : Nat → Nat} {V : Nat → Nat → Int32} {ad k : Nat} {x : Int32} (hD : va_D A (X ++ va_pl L (zz_F K V))) (hm : ad ∈ L) (hk : K ad = 4) (hq : (X ++ va_pl L (zz_F K V))[k]? = some (ad, .inr (4, [.int (V ad 0), .int (V ad 1), .int (V ad 2), .int (V ad 3), .int (V ad 4), .int (V ad 5), .int (V ad 6), .int (V ad 7), .int (V ad 8)]))) : (X ++ va_pl L (zz_F K V)).set k (ad, .inr (4, [.int (V ad 0), .int (V ad 1), .int (V ad 2), .int (V ad 3), .int (V ad 4), .int (V ad 5), .int (V ad 6), .int x, .int (V ad 8)])) = X ++ va_pl L (zz_F K (zz_put V ad 7 x)) := by
  rw [va_pl_set hD hm (by rw [hq, zz_F4 hk])]
  refine congrArg (fun l => X ++ l) (va_pl_congr (fun b => ?_))
  by_cases hb : b = ad
  · subst hb
    rw [va_up_self, zz_F4 hk]
    simp [zz_put, va_up]
  · simp [va_up, hb, zz_F, zz_put]
theorem zz_ps4_8 {A : Nat → Prop} {X : va_W} {L : List Nat} {K : Nat → Nat} {V : Nat → Nat → Int32} {ad k : Nat} {x : Int32} (hD : va_D A (X ++ va_pl L (zz_F K V))) (hm : ad ∈ L) (hk : K ad = 4) (hq : (X ++ va_pl L (zz_F K V))[k]? = some (ad, .inr (4, [.int (V ad 0), .int (V ad 1), .int (V ad 2), .int (V ad 3), .int (V ad 4), .int (V ad 5), .int (V ad 6), .int (V ad 7), .int (V ad 8)]))) : (X ++ va_pl L (zz_F K V)).set k (ad, .inr (4, [.int (V ad 0), .int (V ad 1), .int (V ad 2), .int (V ad 3), .int (V ad 4), .int (V ad 5), .int (V ad 6), .int (V ad 7), .int x])) = X ++ va_pl L (zz_F K (zz_put V ad 8 x)) := by
  rw [va_pl_set hD hm (by rw [hq, zz_F4 hk])]
  refine congrArg (fun l => X ++ l) (va_pl_congr (fun b => ?_))
  by_cases hb : b = ad
  · subst hb
    rw [va_up_self, zz_F4 hk]
    simp [zz_put, va_up]
  · simp [va_up, hb, zz_F, zz_put]
theorem zz_F3 {K : Nat → Nat} {V : Nat → Nat → Int32} {ad : Nat} (hk : K ad = 3) : zz_F K V ad = .inr (3, [.int (V ad 0), .int (V ad 1), .int (V ad 2), .int (V ad 3), .int (V ad 4), .int (V ad 5), .int (V ad 6)]) := by simp [zz_F, zz_ob, hk]
theorem zz_pg3 {X : va_W} {L : List Nat} {K : Nat → Nat} {V : Nat → Nat → Int32} {ad : Nat} (hm : ad ∈ L) (hk : K ad = 3) : ∃ k : Nat, (X ++ va_pl L (zz_F K V))[k]? = some (ad, .inr (3, [.int (V ad 0), .int (V ad 1), .int (V ad 2), .int (V ad 3), .int (V ad 4), .int (V ad 5), .int (V ad 6)])) := by
  obtain ⟨k, h⟩ := va_pl_get (X := X) (f := zz_F K V) hm
  exact ⟨k, by rw [h, zz_F3 hk]⟩
theorem zz_ps3_0 {A : Nat → Prop} {X : va_W} {L : List Nat} {K : Nat → Nat} {V : Nat → Nat → Int32} {ad k : Nat} {x : Int32} (hD : va_D A (X ++ va_pl L (zz_F K V))) (hm : ad ∈ L) (hk : K ad = 3) (hq : (X ++ va_pl L (zz_F K V))[k]? = some (ad, .inr (3, [.int (V ad 0), .int (V ad 1), .int (V ad 2), .int (V ad 3), .int (V ad 4), .int (V ad 5), .int (V ad 6)]))) : (X ++ va_pl L (zz_F K V)).set k (ad, .inr (3, [.int x, .int (V ad 1), .int (V ad 2), .int (V ad 3), .int (V ad 4), .int (V ad 5), .int (V ad 6)])) = X ++ va_pl L (zz_F K (zz_put V ad 0 x)) := by
  rw [va_pl_set hD hm (by rw [hq, zz_F3 hk])]
  refine congrArg (fun l => X ++ l) (va_pl_congr (fun b => ?_))
  by_cases hb : b = ad
  · subst hb
    rw [va_up_self, zz_F3 hk]
    simp [zz_put, va_up]
  · simp [va_up, hb, zz_F, zz_put]
theorem zz_ps3_1 {A : Nat → Prop} {X : va_W} {L : List Nat} {K : Nat → Nat} {V : Nat → Nat → Int32} {ad k : Nat} {x : Int32} (hD : va_D A (X ++ va_pl L (zz_F K V))) (hm : ad ∈ L) (hk : K ad = 3) (hq : (X ++ va_pl L (zz_F K V))[k]? = some (ad, .inr (3, [.int (V ad 0), .int (V ad 1), .int (V ad 2), .int (V ad 3), .int (V ad 4), .int (V ad 5), .int (V ad 6)]))) : (X ++ va_pl L (zz_F K V)).set k (ad, .inr (3, [.int (V ad 0), .int x, .int (V ad 2), .int (V ad 3), .int (V ad 4), .int (V ad 5), .int (V ad 6)])) = X ++ va_pl L (zz_F K (zz_put V ad 1 x)) := by
  rw [va_pl_set hD hm (by rw [hq, zz_F3 hk])]
  refine congrArg (fun l => X ++ l) (va_pl_congr (fun b => ?_))
  by_cases hb : b = ad
  · subst hb
    rw [va_up_self, zz_F3 hk]
    simp [zz_put, va_up]
  · simp [va_up, hb, zz_F, zz_put]
theorem zz_ps3_2 {A : Nat → Prop} {X : va_W} {L : List Nat} {K : Nat → Nat} {V : Nat → Nat → Int32} {ad k : Nat} {x : Int32} (hD : va_D A (X ++ va_pl L (zz_F K V))) (hm : ad ∈ L) (hk : K ad = 3) (hq : (X ++ va_pl L (zz_F K V))[k]? = some (ad, .inr (3, [.int (V ad 0), .int (V ad 1), .int (V ad 2), .int (V ad 3), .int (V ad 4), .int (V ad 5), .int (V ad 6)]))) : (X ++ va_pl L (zz_F K V)).set k (ad, .inr (3, [.int (V ad 0), .int (V ad 1), .int x, .int (V ad 3), .int (V ad 4), .int (V ad 5), .int (V ad 6)])) = X ++ va_pl L (zz_F K (zz_put V ad 2 x)) := by
  rw [va_pl_set hD hm (by rw [hq, zz_F3 hk])]
  refine congrArg (fun l => X ++ l) (va_pl_congr (fun b => ?_))
  by_cases hb : b = ad
  · subst hb
    rw [va_up_self, zz_F3 hk]
    simp [zz_put, va_up]
  · simp [va_up, hb, zz_F, zz_put]
theorem zz_ps3_3 {A : Nat → Prop} {X : va_W} {L : List Nat} {K : Nat → Nat} {V : Nat → Nat → Int32} {ad k : Nat} {x : Int32} (hD : va_D A (X ++ va_pl L (zz_F K V))) (hm : ad ∈ L) (hk : K ad = 3) (hq : (X ++ va_pl L (zz_F K V))[k]? = some (ad, .inr (3, [.int (V ad 0), .int (V ad 1), .int (V ad 2), .int (V ad 3), .int (V ad 4), .int (V ad 5), .int (V ad 6)]))) : (X ++ va_pl L (zz_F K V)).set k (ad, .inr (3, [.int (V ad 0), .int (V ad 1), .int (V ad 2), .int x, .int (V ad 4), .int (V ad 5), .int (V ad 6)])) = X ++ va_pl L (zz_F K (zz_put V ad 3 x)) := by
  rw [va_pl_set hD hm (by rw [hq, zz_F3 hk])]
  refine congrArg (fun l => X ++ l) (va_pl_congr (fun b => ?_))
  by_cases hb : b = ad
  · subst hb
    rw [va_up_self, zz_F3 hk]
    simp [zz_put, va_up]
  · simp [va_up, hb, zz_F, zz_put]
theorem zz_ps3_4 {A : Nat → Prop} {X : va_W} {L : List Nat} {K : Nat → Nat} {V : Nat → Nat → Int32} {ad k : Nat} {x : Int32} (hD : va_D A (X ++ va_pl L (zz_F K V))) (hm : ad ∈ L) (hk : K ad = 3) (hq : (X ++ va_pl L (zz_F K V))[k]? = some (ad, .inr (3, [.int (V ad 0), .int (V ad 1), .int (V ad 2), .int (V ad 3), .int (V ad 4), .int (V ad 5), .int (V ad 6)]))) : (X ++ va_pl L (zz_F K V)).set k (ad, .inr (3, [.int (V ad 0), .int (V ad 1), .int (V ad 2), .int (V ad 3), .int x, .int (V ad 5), .int (V ad 6)])) = X ++ va_pl L (zz_F K (zz_put V ad 4 x)) := by
  rw [va_pl_set hD hm (by rw [hq, zz_F3 hk])]
  refine congrArg (fun l => X ++ l) (va_pl_congr (fun b => ?_))
  by_cases hb : b = ad
  · subst hb
    rw [va_up_self, zz_F3 hk]
    simp [zz_put, va_up]
  · simp [va_up, hb, zz_F, zz_put]
theorem zz_ps3_5 {A : Nat → Prop} {X : va_W} {L : List Nat} {K : Nat → Nat} {V : Nat → Nat → Int32} {ad k : Nat} {x : Int32} (hD : va_D A (X ++ va_pl L (zz_F K V))) (hm : ad ∈ L) (hk : K ad = 3) (hq : (X ++ va_pl L (zz_F K V))[k]? = some (ad, .inr (3, [.int (V ad 0), .int (V ad 1), .int (V ad 2), .int (V ad 3), .int (V ad 4), .int (V ad 5), .int (V ad 6)]))) : (X ++ va_pl L (zz_F K V)).set k (ad, .inr (3, [.int (V ad 0), .int (V ad 1), .int (V ad 2), .int (V ad 3), .int (V ad 4), .int x, .int (V ad 6)])) = X ++ va_pl L (zz_F K (zz_put V ad 5 x)) := by
  rw [va_pl_set hD hm (by rw [hq, zz_F3 hk])]
  refine congrArg (fun l => X ++ l) (va_pl_congr (fun b => ?_))
  by_cases hb : b = ad
  · subst hb
    rw [va_up_self, zz_F3 hk]
    simp [zz_put, va_up]
  · simp [va_up, hb, zz_F, zz_put]
theorem zz_ps3_6 {A : Nat → Prop} {X : va_W} {L : List Nat} {K : Nat → Nat} {V : Nat → Nat → Int32} {ad k : Nat} {x : Int32} (hD : va_D A (X ++ va_pl L (zz_F K V))) (hm : ad ∈ L) (hk : K ad = 3) (hq : (X ++ va_pl L (zz_F K V))[k]? = some (ad, .inr (3, [.int (V ad 0), .int (V ad 1), .int (V ad 2), .int (V ad 3), .int (V ad 4), .int (V ad 5), .int (V ad 6)]))) : (X ++ va_pl L (zz_F K V)).set k (ad, .inr (3, [.int (V ad 0), .int (V ad 1), .int (V ad 2), .int (V ad 3), .int (V ad 4), .int (V ad 5), .int x])) = X ++ va_pl L (zz_F K (zz_put V ad 6 x)) := by
  rw [va_pl_set hD hm (by rw [hq, zz_F3 hk])]
  refine congrArg (fun l => X ++ l) (va_pl_congr (fun b => ?_))
  by_cases hb : b = ad
  · subst hb
    rw [va_up_self, zz_F3 hk]
    simp [zz_put, va_up]
  · simp [va_up, hb, zz_F, zz_put]
section ZL2
variable {p : Program} {l : Launch} {e : Env} {R : Room} {s : State} {m : MethodId} {args : Array Value} {below : List Frame} {meth : Method} {c : Code} {cells slots : Nat} {Q : State → Prop} {pc nL : Nat} {D : va_G} {A : Nat → Prop} {H0 : Heap}
/-- a loop with a state: the invariant holds at its head, each turn lessens the measure -/
theorem zz_loopS {σ : Type} (ws : σ → va_W) (lv : σ → List (Nat × Value)) (Inv : σ → Prop) (μ : σ → Nat) {B : Nat → Prop}
    (hstep : ∀ u : σ, Inv u → ∀ (H : Heap) (locs : List Loc) (ls : Array Slot), va_P D vwCl (ws u) H → va_D B (ws u) → va_S A H0 H locs → lv_has ls nL (lv u) → (∀ u' : σ, Inv u' → μ u' < μ u → ∀ (H : Heap) (locs : List Loc) (ls : Array Slot), va_P D vwCl (ws u') H → va_D B (ws u') → va_S A H0 H locs → lv_has ls nL (lv u') → W p l e R s m args below meth c H locs cells slots Q (F0 m pc ls [])) → W p l e R s m args below meth c H locs cells slots Q (F0 m pc ls [])) :
    ∀ u : σ, Inv u → ∀ (H : Heap) (locs : List Loc) (ls : Array Slot), va_P D vwCl (ws u) H → va_D B (ws u) → va_S A H0 H locs → lv_has ls nL (lv u) → W p l e R s m args below meth c H locs cells slots Q (F0 m pc ls []) := by
  have key : ∀ (n : Nat) (u : σ), μ u < n → Inv u → ∀ (H : Heap) (locs : List Loc) (ls : Array Slot), va_P D vwCl (ws u) H → va_D B (ws u) → va_S A H0 H locs → lv_has ls nL (lv u) → W p l e R s m args below meth c H locs cells slots Q (F0 m pc ls []) := by
    intro n
    induction n with
    | zero => intro u h; exact absurd h (Nat.not_lt_zero _)
    | succ n ih =>
      intro u h hI H locs ls hP hD hS hl
      exact hstep u hI H locs ls hP hD hS hl (fun u' hI' hm' => ih u' (by omega) hI')
  exact fun u => key (μ u + 1) u (Nat.lt_succ_self _)
end ZL2
theorem zz_toInt (n : Nat) (h : n < 2147483648) : (nI n).toInt = (n : Int) := nI_toInt (by omega)
theorem zz_nI_of {x : Int32} {n : Nat} (h0 : 0 ≤ x.toInt) (h1 : x.toInt ≤ (n : Int)) (hn : n < 2147483648) : ∃ j : Nat, j ≤ n ∧ x = nI j := by
  refine ⟨x.toInt.toNat, by omega, ?_⟩
  rw [← Int32.toInt_inj, zz_toInt _ (by omega)]
  omega
theorem zz_pred {c : Nat} (h : c < 2147483648) : (nI c - 1).toInt = (c : Int) - 1 := by
  have := pk_sub_toInt (a := c) (b := 1)
  rcases Nat.eq_zero_or_pos c with h0 | h0
  · subst h0; decide
  · obtain ⟨k, rfl⟩ : ∃ k, c = k + 1 := ⟨c - 1, by omega⟩
    rw [nI_pred, zz_toInt k (by omega)]
    omega
theorem zz_clN {x : Int32} (h : 0 ≤ x.toInt) : (x.toNatClampNeg : Int) = x.toInt := by
  show ((x.toInt.toNat : Nat) : Int) = x.toInt
  omega
theorem zz_k9 (x : Int32) : vp_in (if 0 < (if 9 < x then 9 else x) then (if 9 < x then 9 else x) else 0) 10 := by
  rw [vp_in_iff]
  have e0 : (0 : Int32).toInt = 0 := by decide
  have e9 : (9 : Int32).toInt = 9 := by decide
  by_cases h : (9 : Int32) < x
  · rw [if_pos h, if_pos (by decide), e9]; omega
  · rw [if_neg h]
    by_cases h2 : 0 < x
    · rw [if_pos h2]
      rw [Int32.lt_iff_toInt_lt] at h h2
      omega
    · rw [if_neg h2, e0]; omega
theorem zz_400 {c : Nat} (h : c ≤ 400) : ((400 : Int32) - nI c).toInt = 400 - (c : Int) := by
  have e : (400 : Int32) - nI c = nI (400 - c) := pk_sub (a := 400) (b := c) h
  rw [e, zz_toInt _ (by omega)]
  omega
theorem zz_back {x : Int32} (h : 0 ≤ x.toInt) : x = nI x.toNatClampNeg := by
  have e := zz_clN h
  have hlt : x.toNatClampNeg < 2147483648 := by
    have := Int32.toInt_lt x
    omega
  rw [← Int32.toInt_inj, zz_toInt _ hlt]
  omega
theorem zz_cl {j : Nat} (h : j < 2147483648) : (nI j).toNatClampNeg = j := nI_clamp (by omega)
