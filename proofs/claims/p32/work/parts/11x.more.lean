/-- fewer locals are told -/
theorem mv_locals {g : mj_G} {l : Launch} {y : mj_Y} {d pc : Nat} {lv lv' : List (Nat × Value)} {st : List Value} {M : mj_M} {nx kc ks : Nat} {Q : Option Value → mj_M → Nat → Prop} (h : ∀ q ∈ lv', mj_lk lv q.1 = some q.2) (k : mj_V g l y d pc lv' st M nx kc ks Q) : mj_V g l y d pc lv st M nx kc ks Q := by
  intro p e R s m args below meth c H locs ls cells slots TC TS X hR hS hl h1 h2 h3 h4
  refine k p e R s m args below meth c H locs ls cells slots TC TS X hR hS ⟨hl.1, hl.2.1, fun q hq => ?_⟩ h1 h2 h3 h4
  obtain ⟨q0, hq0, rfl⟩ := List.mem_map.mp hq
  exact mj_at hl (h q0 hq0)
theorem fb_bmod32 {z : Int} (h1 : -2147483648 ≤ z) (h2 : z < 2147483648) : z.bmod (2 ^ 32) = z := by
  rw [Int.bmod_eq_of_le (by omega) (by omega)]
/-- another Q -/
theorem mv_conseq {g : mj_G} {l : Launch} {y : mj_Y} {d pc : Nat} {lv : List (Nat × Value)} {st : List Value} {M : mj_M} {nx kc ks : Nat} {Q Q2 : Option Value → mj_M → Nat → Prop} (h : ∀ r M' nx', Q r M' nx' → Q2 r M' nx') (k : mj_V g l y d pc lv st M nx kc ks Q) : mj_V g l y d pc lv st M nx kc ks Q2 := by
  intro p e R s m args below meth c H locs ls cells slots TC TS X hR hS hl h1 h2 h3 h4 T hT X9
  obtain ⟨t, a1, o, b1, b2, b3, b4⟩ := k p e R s m args below meth c H locs ls cells slots TC TS X hR hS hl h1 h2 h3 h4 T hT X9
  obtain ⟨⟨r, M', nx', c1, c2, c3⟩, c4⟩ := b3
  exact ⟨t, a1, o, b1, b2, ⟨⟨r, M', nx', c1, h r M' nx' c2, c3⟩, c4⟩, b4⟩
theorem mz_mask63 (x : Int32) : 0 ≤ (x &&& 63).toInt ∧ (x &&& 63).toInt ≤ 63 := by
  obtain ⟨j, hj, h⟩ := pk_andE x 6 (m := 63) (by decide)
  rw [h, nI_toInt (by omega)]
  omega
