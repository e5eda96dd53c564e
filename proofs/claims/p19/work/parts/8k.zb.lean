/-- which house owes, which one is owed, in a set: the least -/
def zz_fb (u : Nat → Int32) (x : Nat) : Option Nat := (List.range 8).find? (fun h => x.testBit h && decide ((u h).toInt < 0))
def zz_fa (u : Nat → Int32) (x : Nat) : Option Nat := (List.range 8).find? (fun h => x.testBit h && decide (0 < (u h).toInt))
theorem zz_fb_some {u : Nat → Int32} {x q : Nat} (hq : q < 8) (hp : zz_pb u x q) (hm : ∀ h : Nat, h < q → ¬ zz_pb u x h) : zz_fb u x = some q := by
  unfold zz_fb
  rw [List.find?_range_eq_some]
  refine ⟨by simp [hp.1, hp.2], List.mem_range.mpr hq, fun j hj => ?_⟩
  have := hm j hj
  unfold zz_pb at this
  cases hb : x.testBit j <;> simp_all
theorem zz_fa_some {u : Nat → Int32} {x q : Nat} (hq : q < 8) (hp : zz_pa u x q) (hm : ∀ h : Nat, h < q → ¬ zz_pa u x h) : zz_fa u x = some q := by
  unfold zz_fa
  rw [List.find?_range_eq_some]
  refine ⟨by simp [hp.1, hp.2], List.mem_range.mpr hq, fun j hj => ?_⟩
  have := hm j hj
  unfold zz_pa at this
  cases hb : x.testBit j <;> simp_all
theorem zz_fb_none {u : Nat → Int32} {x : Nat} (hm : ∀ h : Nat, h < 8 → ¬ zz_pb u x h) : zz_fb u x = none := by
  unfold zz_fb
  refine List.find?_eq_none.mpr (fun j hj => ?_)
  have := hm j (List.mem_range.mp hj)
  unfold zz_pb at this
  cases hb : x.testBit j <;> simp_all
theorem zz_fb_spec {u : Nat → Int32} {x q : Nat} (h : zz_fb u x = some q) : q < 8 ∧ zz_pb u x q ∧ ∀ j : Nat, j < q → ¬ zz_pb u x j := by
  unfold zz_fb at h
  rw [List.find?_range_eq_some] at h
  obtain ⟨a, b, c⟩ := h
  refine ⟨List.mem_range.mp b, by unfold zz_pb; simpa using a, fun j hj z => ?_⟩
  have := c j hj
  unfold zz_pb at z
  simp_all
theorem zz_fa_spec {u : Nat → Int32} {x q : Nat} (h : zz_fa u x = some q) : q < 8 ∧ zz_pa u x q ∧ ∀ j : Nat, j < q → ¬ zz_pa u x j := by
  unfold zz_fa at h
  rw [List.find?_range_eq_some] at h
  obtain ⟨a, b, c⟩ := h
  refine ⟨List.mem_range.mp b, by unfold zz_pa; simpa using a, fun j hj z => ?_⟩
  have := c j hj
  unfold zz_pa at z
  simp_all
def zz_mn (u : Nat → Int32) (a b : Nat) : Int32 := if u b < -u a then u b else -u a
def zz_un2 (u : Nat → Int32) (a b : Nat) : Nat → Int32 := upd (upd u (Int32.toNatClampNeg (nI a)) (u a + zz_mn u a b)) (Int32.toNatClampNeg (nI b)) ((upd u (Int32.toNatClampNeg (nI a)) (u a + zz_mn u a b)) b - zz_mn u a b)
def zz_evL (x : Nat) : Nat → (Nat → Int32) → List (Nat × Nat × Int32) × (Nat → Int32)
  | 0, u => ([], u)
  | f + 1, u => match zz_fb u x, zz_fa u x with
    | some a, some b => ((a, b, zz_mn u a b) :: (zz_evL x f (zz_un2 u a b)).1, (zz_evL x f (zz_un2 u a b)).2)
    | _, _ => ([], u)
theorem zz_evL_s {u : Nat → Int32} {x f a b : Nat} (ha : zz_fb u x = some a) (hb : zz_fa u x = some b) : zz_evL x (f + 1) u = ((a, b, zz_mn u a b) :: (zz_evL x f (zz_un2 u a b)).1, (zz_evL x f (zz_un2 u a b)).2) := by
  rw [zz_evL, ha, hb]
theorem zz_evL_0 {u : Nat → Int32} {x f : Nat} (ha : zz_fb u x = none) : zz_evL x f u = ([], u) := by
  cases f with
  | zero => rfl
  | succ f => rw [zz_evL, ha]
theorem zz_pb_cg {u v : Nat → Int32} {x h : Nat} (e : x.testBit h = true → u h = v h) : zz_pb u x h ↔ zz_pb v x h := by
  unfold zz_pb
  constructor
  · rintro ⟨a, b⟩; exact ⟨a, by rw [← e a]; exact b⟩
  · rintro ⟨a, b⟩; exact ⟨a, by rw [e a]; exact b⟩
theorem zz_pa_cg {u v : Nat → Int32} {x h : Nat} (e : x.testBit h = true → u h = v h) : zz_pa u x h ↔ zz_pa v x h := by
  unfold zz_pa
  constructor
  · rintro ⟨a, b⟩; exact ⟨a, by rw [← e a]; exact b⟩
  · rintro ⟨a, b⟩; exact ⟨a, by rw [e a]; exact b⟩
theorem zz_fb_cg {u v : Nat → Int32} {x : Nat} (e : ∀ h : Nat, x.testBit h = true → u h = v h) : zz_fb u x = zz_fb v x := by
  cases w : zz_fb u x with
  | some a =>
    obtain ⟨a1, a2, a3⟩ := zz_fb_spec w
    exact (zz_fb_some a1 ((zz_pb_cg (e a)).mp a2) (fun h hh z => a3 h hh ((zz_pb_cg (e h)).mpr z))).symm
  | none =>
    refine (zz_fb_none (fun h hh z => ?_)).symm
    have := List.find?_eq_none.mp w h (List.mem_range.mpr hh)
    have z2 := (zz_pb_cg (e h)).mpr z
    exact this (by simp [z2.1, z2.2])
theorem zz_fa_cg {u v : Nat → Int32} {x : Nat} (e : ∀ h : Nat, x.testBit h = true → u h = v h) : zz_fa u x = zz_fa v x := by
  cases w : zz_fa u x with
  | some a =>
    obtain ⟨a1, a2, a3⟩ := zz_fa_spec w
    exact (zz_fa_some a1 ((zz_pa_cg (e a)).mp a2) (fun h hh z => a3 h hh ((zz_pa_cg (e h)).mpr z))).symm
  | none =>
    cases w2 : zz_fa v x with
    | none => rfl
    | some b =>
      obtain ⟨b1, b2, _⟩ := zz_fa_spec w2
      have := List.find?_eq_none.mp w b (List.mem_range.mpr b1)
      have z2 := (zz_pa_cg (e b)).mpr b2
      exact absurd (by simp [z2.1, z2.2]) this
theorem zz_un2_at {u : Nat → Int32} {a b h : Nat} (ha : a < 8) (hb : b < 8) : zz_un2 u a b h = if h = b then (if b = a then u a + zz_mn u a b else u b) - zz_mn u a b else if h = a then u a + zz_mn u a b else u h := by
  unfold zz_un2
  rw [zz_cl (show a < 2147483648 by omega), zz_cl (show b < 2147483648 by omega)]
  simp only [upd]
theorem zz_evL_cg {x : Nat} : ∀ (f : Nat) (u v : Nat → Int32), (∀ h : Nat, x.testBit h = true → u h = v h) → (zz_evL x f u).1 = (zz_evL x f v).1 := by
  intro f
  induction f with
  | zero => intro u v _; rfl
  | succ f ih =>
    intro u v e
    have e1 := zz_fb_cg e
    have e2 := zz_fa_cg e
    cases w : zz_fb u x with
    | none => rw [zz_evL_0 w, zz_evL_0 (e1.symm.trans w)]
    | some a =>
      cases w2 : zz_fa u x with
      | none =>
        have a1 : zz_evL x (f + 1) u = ([], u) := by rw [zz_evL, w, w2]
        have a2 : zz_evL x (f + 1) v = ([], v) := by rw [zz_evL, e1.symm.trans w, e2.symm.trans w2]
        rw [a1, a2]
      | some b =>
        rw [zz_evL_s w w2, zz_evL_s (e1.symm.trans w) (e2.symm.trans w2)]
        obtain ⟨a1, a2, _⟩ := zz_fb_spec w
        obtain ⟨b1, b2, _⟩ := zz_fa_spec w2
        have ea := e a a2.1
        have eb := e b b2.1
        have em : zz_mn u a b = zz_mn v a b := by unfold zz_mn; rw [ea, eb]
        show (a, b, zz_mn u a b) :: (zz_evL x f (zz_un2 u a b)).1 = (a, b, zz_mn v a b) :: (zz_evL x f (zz_un2 v a b)).1
        rw [em, ih (zz_un2 u a b) (zz_un2 v a b) (fun h hb => by rw [zz_un2_at a1 b1, zz_un2_at a1 b1, em, ea, eb, e h hb])]
/-- the least part that leaves the most groups -/
def zz_Q2 (N : Nat → Int32) (c : Nat → Int) (r p : Nat) : Prop := 1 ≤ p ∧ p &&& r = p ∧ p.testBit (zz_ls r) = true ∧ zz_is N p 8 = 0 ∧ c (r - p) + 1 = c r
def zz_LQ (N : Nat → Int32) (c : Nat → Int) (r p : Nat) : Prop := zz_Q2 N c r p ∧ ∀ q : Nat, q < p → ¬ zz_Q2 N c r q
theorem zz_LQ_det {N M : Nat → Int32} {c d : Nat → Int} {r p q : Nat} (hr : r < 256) (e : ∀ x : Nat, x &&& r = x → zz_is N x 8 = zz_is M x 8 ∧ c x = d x) (a : zz_LQ N c r p) (b : zz_LQ M d r q) : p = q := by
  have tr : ∀ x : Nat, zz_Q2 N c r x ↔ zz_Q2 M d r x := by
    intro x
    unfold zz_Q2
    constructor
    · rintro ⟨x1, x2, x3, x4, x5⟩
      exact ⟨x1, x2, x3, by rw [← (e x x2).1]; exact x4, by rw [← (e (r - x) (zz_sub_and hr x2 (Nat.and_self r))).2, ← (e r (Nat.and_self r)).2]; exact x5⟩
    · rintro ⟨x1, x2, x3, x4, x5⟩
      exact ⟨x1, x2, x3, by rw [(e x x2).1]; exact x4, by rw [(e (r - x) (zz_sub_and hr x2 (Nat.and_self r))).2, (e r (Nat.and_self r)).2]; exact x5⟩
  rcases Nat.lt_trichotomy p q with z | z | z
  · exact absurd ((tr p).mp a.1) (b.2 p z)
  · exact z
  · exact absurd ((tr q).mpr b.1) (a.2 q z)
def zz_TL (N : Nat → Int32) (c : Nat → Int) : Nat → Nat → List (Nat × Nat × Int32) → Prop
  | 0, r, l => r = 0 ∧ l = []
  | f + 1, r, l => (r = 0 ∧ l = []) ∨ (¬ r = 0 ∧ ∃ (p : Nat) (l2 : List (Nat × Nat × Int32)), zz_LQ N c r p ∧ l = (zz_evL p 8 N).1 ++ l2 ∧ zz_TL N c f (r - p) l2)
theorem zz_TL_det {N M : Nat → Int32} {c d : Nat → Int} : ∀ (f g r : Nat) (l k : List (Nat × Nat × Int32)), r < 256 → (∀ x : Nat, x &&& r = x → zz_is N x 8 = zz_is M x 8 ∧ c x = d x) → (∀ h : Nat, r.testBit h = true → N h = M h) → zz_TL N c f r l → zz_TL M d g r k → l = k := by
  intro f
  induction f with
  | zero =>
    intro g r l k hr e1 e2 a b
    obtain ⟨a1, a2⟩ := a
    cases g with
    | zero => rw [a2, b.2]
    | succ g =>
      rcases b with b | b
      · rw [a2, b.2]
      · exact absurd a1 b.1
  | succ f ih =>
    intro g r l k hr e1 e2 a b
    rcases a with a | ⟨a0, p, l2, a1, a2, a3⟩
    · cases g with
      | zero => rw [a.2, b.2]
      | succ g =>
        rcases b with b | b
        · rw [a.2, b.2]
        · exact absurd a.1 b.1
    · cases g with
      | zero => exact absurd b.1 a0
      | succ g =>
        rcases b with b | ⟨_, q, k2, b1, b2, b3⟩
        · exact absurd b.1 a0
        · have e := zz_LQ_det hr e1 a1 b1
          subst e
          have ps := a1.1.2.1
          have sr : (r - p) &&& r = r - p := zz_sub_and hr ps (Nat.and_self r)
          rw [a2, b2, zz_evL_cg 8 N M (fun h hb => e2 h (zz_in_of ps hb)), ih g (r - p) l2 k2 (by omega) (fun x hx => e1 x (zz_sbt hx sr)) (fun h hb => e2 h (zz_in_of sr hb)) a3 b3]
theorem zz_RC_cg {N M : Nat → Int32} {c d : Nat → Int} {U : Nat} (hU : U < 256) (e : ∀ h : Nat, U.testBit h = true → N h = M h) (a : zz_RC N c) (b : zz_RC M d) : ∀ n x : Nat, x < n → x &&& U = x → zz_is N x 8 = zz_is M x 8 ∧ c x = d x := by
  intro n
  induction n with
  | zero => intro x h; exact absurd h (Nat.not_lt_zero _)
  | succ n ih =>
    intro x hn hx
    have es : zz_is N x 8 = zz_is M x 8 := zz_is_congr 8 (fun h _ hb => e h (zz_in_of hx hb))
    refine ⟨es, ?_⟩
    rcases Nat.eq_zero_or_pos x with z | z
    · rw [z, a.1, b.1]
    · have x8 : x < 256 := by have := zz_le_of hx; omega
      obtain ⟨m, m1, ⟨h, hh, h1, h2⟩, m3⟩ := a.2 x z x8
      obtain ⟨k, k1, ⟨j, hj, j1, j2⟩, k3⟩ := b.2 x z x8
      have q : ∀ i : Nat, x.testBit i = true → c (x - 2 ^ i) = d (x - 2 ^ i) := fun i hi => (ih (x - 2 ^ i) (by have := zz_subl x8 (zz_p2s hi) (Nat.one_le_two_pow); omega) (zz_sub_and x8 (zz_p2s hi) hx)).2
      have c1 := k1 h hh h1
      have c2 := m1 j hj j1
      rw [← q h h1] at c1
      rw [q j j1] at c2
      rw [m3, k3, es, show m = k from by omega]
/-- the PAYMENTS of nets N, of which U are the houses that aren't even -/
def zz_PAY (N : Nat → Int32) (U : Nat) (l : List (Nat × Nat × Int32)) : Prop := ∃ c : Nat → Int, zz_RC N c ∧ zz_TL N c 8 U l
theorem zz_PAY_det {N M : Nat → Int32} {U : Nat} {l k : List (Nat × Nat × Int32)} (hU : U < 256) (e : ∀ h : Nat, U.testBit h = true → N h = M h) (a : zz_PAY N U l) (b : zz_PAY M U k) : l = k := by
  obtain ⟨c, a1, a2⟩ := a
  obtain ⟨d, b1, b2⟩ := b
  exact zz_TL_det 8 8 U l k hU (fun x hx => zz_RC_cg hU e a1 b1 (x + 1) x (by omega) hx) e a2 b2
/-- the rows of payments that hold the list -/
def zz_pw (l : List (Nat × Nat × Int32)) (k : Nat) (y1 y2 y3 : Nat → Int32) : Prop := l.length = k ∧ ∀ (i : Nat) (x : Nat × Nat × Int32), l[i]? = some x → y1 i = nI x.1 ∧ y2 i = nI x.2.1 ∧ y3 i = x.2.2
theorem zz_pw_0 {y1 y2 y3 : Nat → Int32} : zz_pw [] 0 y1 y2 y3 := ⟨rfl, fun i x h => by simp at h⟩
theorem zz_pw_snoc {l : List (Nat × Nat × Int32)} {k a b : Nat} {n : Int32} {y1 y2 y3 : Nat → Int32} (h : zz_pw l k y1 y2 y3) (hk : k < 2147483648) : zz_pw (l ++ [(a, b, n)]) (k + 1) (upd y1 (Int32.toNatClampNeg (nI k)) (nI a)) (upd y2 (Int32.toNatClampNeg (nI k)) (nI b)) (upd y3 (Int32.toNatClampNeg (nI k)) n) := by
  rw [zz_cl hk]
  refine ⟨by rw [List.length_append, h.1]; rfl, fun i x hx => ?_⟩
  by_cases e : i = k
  · rw [e, ← h.1, List.getElem?_append_right (Nat.le_refl _), Nat.sub_self] at hx
    have : x = (a, b, n) := by simpa using hx.symm
    rw [this, e, zz_up_s, zz_up_s, zz_up_s]
    exact ⟨rfl, rfl, rfl⟩
  · rw [zz_up_n e, zz_up_n e, zz_up_n e]
    refine h.2 i x ?_
    rcases Nat.lt_or_ge i l.length with z | z
    · rw [List.getElem?_append_left z] at hx; exact hx
    · rw [List.getElem?_append_right z] at hx
      have : 1 ≤ i - l.length := by have := h.1; omega
      rw [List.getElem?_eq_none (by simpa using this)] at hx
      cases hx
theorem zz_pw_det {l : List (Nat × Nat × Int32)} {k j : Nat} {y1 y2 y3 z1 z2 z3 : Nat → Int32} (a : zz_pw l k y1 y2 y3) (b : zz_pw l j z1 z2 z3) : k = j ∧ ∀ i : Nat, i < k → y1 i = z1 i ∧ y2 i = z2 i ∧ y3 i = z3 i := by
  refine ⟨a.1.symm.trans b.1, fun i hi => ?_⟩
  have hi2 : i < l.length := by rw [a.1]; exact hi
  have x := a.2 i _ (List.getElem?_eq_getElem hi2)
  have y := b.2 i _ (List.getElem?_eq_getElem hi2)
  exact ⟨x.1.trans y.1.symm, x.2.1.trans y.2.1.symm, x.2.2.trans y.2.2.symm⟩
def zz_ris (c : Nat → Int) (n : Nat) (v : Int) : Nat → Int := fun s => if s = n then v else c s
theorem zz_ris_s {c : Nat → Int} {n : Nat} {v : Int} : zz_ris c n v n = v := if_pos rfl
theorem zz_ris_n {c : Nat → Int} {n s : Nat} {v : Int} (h : ¬ s = n) : zz_ris c n v s = c s := if_neg h
/-- there is such a count of groups -/
theorem zz_RC_ex (N : Nat → Int32) : ∃ c : Nat → Int, zz_RC N c := by
  have key : ∀ n : Nat, ∃ c : Nat → Int, c 0 = 0 ∧ ∀ s : Nat, 1 ≤ s → s < n → s < 256 → ∃ m : Int, (∀ h : Nat, h < 8 → s.testBit h = true → c (s - 2 ^ h) ≤ m) ∧ (∃ h : Nat, h < 8 ∧ s.testBit h = true ∧ c (s - 2 ^ h) = m) ∧ c s = m + (if zz_is N s 8 = 0 then 1 else 0) := by
    intro n
    induction n with
    | zero => exact ⟨fun _ => 0, rfl, fun s _ h => absurd h (Nat.not_lt_zero _)⟩
    | succ n ih =>
      obtain ⟨c, c0, cs⟩ := ih
      rcases Nat.eq_zero_or_pos n with z | z
      · exact ⟨c, c0, fun s h1 h2 h3 => absurd h1 (by omega)⟩
      · by_cases n8 : n < 256
        · have mx : ∀ k : Nat, k ≤ 8 → (∃ h : Nat, h < k ∧ n.testBit h = true) → ∃ m : Int, (∀ h : Nat, h < k → n.testBit h = true → c (n - 2 ^ h) ≤ m) ∧ ∃ h : Nat, h < k ∧ n.testBit h = true ∧ c (n - 2 ^ h) = m := by
            intro k
            induction k with
            | zero => intro _ ⟨h, hh, _⟩; exact absurd hh (Nat.not_lt_zero _)
            | succ k ik =>
              intro hk _
              by_cases w : ∃ h : Nat, h < k ∧ n.testBit h = true
              · obtain ⟨m, m1, h, h1, h2, h3⟩ := ik (by omega) w
                by_cases b : n.testBit k = true
                · by_cases q : c (n - 2 ^ k) ≤ m
                  · refine ⟨m, fun j hj jb => ?_, h, by omega, h2, h3⟩
                    by_cases e : j = k
                    · rw [e]; exact q
                    · exact m1 j (by omega) jb
                  · refine ⟨c (n - 2 ^ k), fun j hj jb => ?_, k, by omega, b, rfl⟩
                    by_cases e : j = k
                    · rw [e]; exact Int.le_refl _
                    · have := m1 j (by omega) jb; omega
                · refine ⟨m, fun j hj jb => ?_, h, by omega, h2, h3⟩
                  by_cases e : j = k
                  · rw [e] at jb; exact absurd jb b
                  · exact m1 j (by omega) jb
              · rename_i hex
                obtain ⟨h, hh, hb⟩ := hex
                have e : h = k := by
                  rcases Nat.lt_or_ge h k with z | z
                  · exact absurd ⟨h, z, hb⟩ w
                  · omega
                subst e
                refine ⟨c (n - 2 ^ h), fun j hj jb => ?_, h, by omega, hb, rfl⟩
                by_cases e : j = h
                · rw [e]; exact Int.le_refl _
                · exact absurd ⟨j, by omega, jb⟩ w
          obtain ⟨m, m1, h, h1, h2, h3⟩ := mx 8 (Nat.le_refl _) (zz_one_bit n8 z)
          refine ⟨zz_ris c n (m + (if zz_is N n 8 = 0 then 1 else 0)), by rw [zz_ris_n (show ¬ 0 = n by omega)]; exact c0, fun s s1 s2 s3 => ?_⟩
          have low : ∀ i : Nat, s.testBit i = true → zz_ris c n (m + (if zz_is N n 8 = 0 then 1 else 0)) (s - 2 ^ i) = c (s - 2 ^ i) := fun i hi => zz_ris_n (by have := zz_subl s3 (zz_p2s hi) (Nat.one_le_two_pow); omega)
          by_cases e : s = n
          · subst e
            exact ⟨m, fun j hj jb => by rw [low j jb]; exact m1 j hj jb, ⟨h, h1, h2, by rw [low h h2]; exact h3⟩, zz_ris_s⟩
          · obtain ⟨k, k1, ⟨j, j1, j2, j3⟩, k3⟩ := cs s s1 (by omega) s3
            exact ⟨k, fun i hi ib => by rw [low i ib]; exact k1 i hi ib, ⟨j, j1, j2, by rw [low j j2]; exact j3⟩, by rw [zz_ris_n e]; exact k3⟩
        · exact ⟨c, c0, fun s h1 h2 h3 => cs s h1 (by omega) h3⟩
  obtain ⟨c, c0, cs⟩ := key 256
  exact ⟨c, c0, fun s h1 h2 => cs s h1 h2 h2⟩
