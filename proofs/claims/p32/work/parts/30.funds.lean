/-! THE REFERENCE'S FUNDS: parts and ends -/
def sm (g : Nat → Int) (b : Nat) : Nat → Int
  | 0 => 0
  | n + 1 => sm g b n + g (b + n)
/-- the parts of a fund that isn't joined are a million -/
def rP (M : mj_M) (o : Nat) : Prop := ∀ f : Nat, f < 12 → (f : Int) < rv M o 32 → ra M o 37 f = -1 → sm (ra M o 41) (12 * f) 12 = 1000000
/-- how many ends the funds below n have that aren't joined -/
def es (M : mj_M) (o : Nat) : Nat → Int
  | 0 => 0
  | n + 1 => es M o n + (if (n : Int) < rv M o 32 ∧ ra M o 37 n = -1 then ra M o 43 n else 0)
/-- at most six a fund; those to come (but x) have none -/
def rB (M : mj_M) (o x : Nat) : Prop := es M o 12 ≤ 6 * rv M o 32 ∧ ∀ f : Nat, f < 12 → rv M o 32 ≤ f → (f ≠ x → ra M o 43 f = 0) ∧ ∀ k : Nat, k < 12 → ra M o 41 (12 * f + k) = 0
section RF
variable {M0 M M1 Mb Mc Md : mj_M} {o x t : Nat}
theorem ad_of {a b : Nat → Int} {q : Nat} {z v : Int} (e : ∀ j, a j = if j = q then v else b j) (hq : (q : Int) = z) : ∀ j : Nat, a j = if (j : Int) = z then v else b j := fun j => by
  rw [e]
  by_cases h : j = q
  · rw [if_pos h, if_pos (by omega)]
  · rw [if_neg h, if_neg (by omega)]
theorem sm_congr {g h : Nat → Int} {b : Nat} : ∀ n, (∀ k, k < n → g (b + k) = h (b + k)) → sm g b n = sm h b n
  | 0, _ => rfl
  | n + 1, e => by
    show sm g b n + g (b + n) = sm h b n + h (b + n)
    rw [sm_congr n (fun k hk => e k (by omega)), e n (by omega)]
theorem es_congr : ∀ n, (∀ f : Nat, f < n → ((f : Int) < rv M1 o 32 ∧ ra M1 o 37 f = -1 ↔ (f : Int) < rv M o 32 ∧ ra M o 37 f = -1) ∧ ((f : Int) < rv M o 32 → ra M1 o 43 f = ra M o 43 f)) → es M1 o n = es M o n
  | 0, _ => rfl
  | n + 1, e => by
    show es M1 o n + _ = es M o n + _
    rw [es_congr n (fun f hf => e f (by omega))]
    obtain ⟨e1, e2⟩ := e n (by omega)
    by_cases h : (n : Int) < rv M o 32 ∧ ra M o 37 n = -1
    · rw [if_pos (e1.mpr h), if_pos h, e2 h.1]
    · rw [if_neg (fun h9 => h (e1.mp h9)), if_neg h]
theorem rP.same (h : rP M o) (a : sA [37, 41] M M1 o) (f : sF [32] M M1 o) : rP M1 o := by
  unfold rP
  rw [a 37 rfl, a 41 rfl, f 32 rfl]
  exact h
theorem rB.same (h : rB M o x) (a : sA [37, 41, 43] M M1 o) (f : sF [32] M M1 o) : rB M1 o x := by
  obtain ⟨h1, h2⟩ := h
  refine ⟨?_, ?_⟩
  · rw [es_congr (M := M) 12 (fun g _ => ⟨by rw [a 37 rfl, f 32 rfl], fun _ => by rw [a 43 rfl]⟩), f 32 rfl]
    exact h1
  · rw [a 41 rfl, a 43 rfl, f 32 rfl]
    exact h2
theorem rP.out {n : Nat} {v : Int} (h : rP M o) (A : ∀ j, j ≠ 37 → rgK j = true → ∀ i, ra M1 o j i = ra M o j i) (e : ∀ j, ra M1 o 37 j = if j = n then v else ra M o 37 j) (V : ∀ j, rv M1 o j = rv M o j) (hn : rv M o 32 ≤ n) : rP M1 o := fun f hf h1 h2 => by
  rw [V] at h1
  rw [e, if_neg (by omega)] at h2
  rw [show ra M1 o 41 = ra M o 41 from funext fun i => A 41 (by decide) rfl i]
  exact h f hf h1 h2
theorem rB.out {n : Nat} {v : Int} (h : rB M o x) (A : ∀ j, j ≠ 37 → rgK j = true → ∀ i, ra M1 o j i = ra M o j i) (e : ∀ j, ra M1 o 37 j = if j = n then v else ra M o 37 j) (V : ∀ j, rv M1 o j = rv M o j) (hn : rv M o 32 ≤ n) : rB M1 o x := by
  obtain ⟨h1, h2⟩ := h
  have e43 : ra M1 o 43 = ra M o 43 := funext fun i => A 43 (by decide) rfl i
  refine ⟨?_, ?_⟩
  · rw [V, es_congr (M := M) 12 (fun g _ => ⟨?_, fun _ => by rw [e43]⟩)]
    · exact h1
    · rw [V]
      by_cases h9 : (g : Int) < rv M o 32
      · rw [e, if_neg (by omega)]
      · exact ⟨fun h => absurd h.1 h9, fun h => absurd h.1 h9⟩
  · rw [V, e43, show ra M1 o 41 = ra M o 41 from funext fun i => A 41 (by decide) rfl i]
    exact h2
theorem rB.add {t1 r : Int} (h : rB M o x) (A : rAd M M1 o x t1 r) (a : sA [37, 41] M M1 o) (f : sF [32] M M1 o) (hx : rv M o 32 ≤ x) : rB M1 o x := by
  obtain ⟨h1, h2⟩ := h
  obtain ⟨-, -, a43⟩ := A
  refine ⟨?_, fun g hg hg2 => ?_⟩
  · rw [es_congr (M := M) 12 (fun g _ => ⟨by rw [a 37 rfl, f 32 rfl], fun h9 => by rw [a43, if_neg (by omega)]⟩), f 32 rfl]
    exact h1
  · rw [f 32 rfl] at hg2
    obtain ⟨q1, q2⟩ := h2 g hg hg2
    rw [a 41 rfl]
    refine ⟨fun hne => ?_, q2⟩
    rw [a43, if_neg hne]
    exact q1 hne
theorem rB.to (h : rB M o 12) : rB M o x := ⟨h.1, fun f hf h1 => ⟨fun _ => (h.2 f hf h1).1 (by omega), (h.2 f hf h1).2⟩⟩
theorem sm_zero {g : Nat → Int} {b : Nat} : ∀ n, (∀ k, k < n → g (b + k) = 0) → sm g b n = 0
  | 0, _ => rfl
  | n + 1, e => by
    show sm g b n + g (b + n) = 0
    rw [sm_zero n (fun k hk => e k (by omega)), e n (by omega)]
    rfl
theorem sm_one {g h : Nat → Int} {b q : Nat} {v : Int} (e : ∀ j, g j = if j = b + q then v else h j) : ∀ n, (∀ k, k < n → h (b + k) = 0) → sm g b n = if q < n then v else 0
  | 0, _ => by rw [if_neg (by omega)]; rfl
  | n + 1, z => by
    show sm g b n + g (b + n) = _
    rw [sm_one e n (fun k hk => z k (by omega)), e]
    by_cases hq : n = q
    · rw [if_neg (by omega), if_pos (by omega), if_pos (by omega)]
      omega
    · rw [if_neg (show ¬ b + n = b + q by omega), z n (by omega)]
      by_cases h2 : q < n
      · rw [if_pos h2, if_pos (by omega)]
        omega
      · rw [if_neg h2, if_neg (by omega)]
        rfl
theorem es_le : ∀ n : Nat, (∀ f : Nat, f < n → (f : Int) ≠ rv M o 32 → ((f : Int) < rv M1 o 32 ∧ ra M1 o 37 f = -1 ↔ (f : Int) < rv M o 32 ∧ ra M o 37 f = -1) ∧ ra M1 o 43 f = ra M o 43 f) → (∀ f : Nat, (f : Int) = rv M o 32 → ra M1 o 43 f ≤ 6) → es M1 o n ≤ es M o n + (if rv M o 32 < n then 6 else 0)
  | 0, _, _ => by
    show (0 : Int) ≤ 0 + _
    split <;> decide
  | n + 1, e, h6 => by
    have ih := es_le n (fun f hf => e f (by omega)) h6
    show es M1 o n + _ ≤ es M o n + _ + _
    by_cases hn : (n : Int) = rv M o 32
    · rw [if_neg (show ¬ rv M o 32 < (n : Int) by omega)] at ih
      rw [if_neg (show ¬ ((n : Int) < rv M o 32 ∧ _) from fun h => by omega), if_pos (show rv M o 32 < ((n + 1 : Nat) : Int) by omega)]
      have := h6 n hn
      split <;> omega
    · obtain ⟨e1, e2⟩ := e n (by omega) hn
      have e3 : (if rv M o 32 < ((n + 1 : Nat) : Int) then (6 : Int) else 0) = if rv M o 32 < (n : Int) then 6 else 0 := by
        by_cases h9 : rv M o 32 < (n : Int)
        · rw [if_pos h9, if_pos (by omega)]
        · rw [if_neg h9, if_neg (by omega)]
      rw [e3]
      by_cases h : (n : Int) < rv M o 32 ∧ ra M o 37 n = -1
      · rw [if_pos (e1.mpr h), if_pos h, e2]
        omega
      · rw [if_neg (fun h9 => h (e1.mp h9)), if_neg h]
        omega
/-- a fund more -/
theorem rPB.fund {q : Nat} (P : rP Mb o) (B : rB Mb o x) (hx : (x : Int) = rv Mb o 32) (e : ∀ j, ra Mc o 41 j = if j = q then 1000000 else ra Mb o 41 j) (hq : (q : Int) = 12 * rv Mb o 32 + rv Mb o 32) (A : ∀ j, j ≠ 41 → rgK j = true → ∀ i, ra Mc o j i = ra Mb o j i) (V : ∀ j, rv Mc o j = rv Mb o j) (A2 : ∀ j, j ≠ 32 → ∀ i, ra Md o j i = ra Mc o j i) (h1 : rv Md o 32 = rv Mc o 32 + 1) (h0 : 0 ≤ rv Mb o 32) (h12 : rv Mb o 32 < 12) (h43 : ra Mb o 43 x ≤ 6) : rP Md o ∧ rB Md o 12 := by
  obtain ⟨b1, b2⟩ := B
  have e41 : ∀ j, ra Md o 41 j = if j = q then 1000000 else ra Mb o 41 j := fun j => by rw [A2 41 (by decide), e]
  have e37 : ∀ j, ra Md o 37 j = ra Mb o 37 j := fun j => by rw [A2 37 (by decide), A 37 (by decide) rfl]
  have e43 : ∀ j, ra Md o 43 j = ra Mb o 43 j := fun j => by rw [A2 43 (by decide), A 43 (by decide) rfl]
  have e32 : rv Md o 32 = rv Mb o 32 + 1 := by rw [h1, V]
  refine ⟨fun f hf h2 h3 => ?_, ?_, fun f hf h2 => ⟨fun _ => ?_, fun k hk => ?_⟩⟩
  · by_cases hf9 : (f : Int) = rv Mb o 32
    · rw [sm_one (h := ra Mb o 41) (q := f) (v := 1000000) (fun j => by rw [e41, show q = 12 * f + f from by omega]) 12 (fun k hk => (b2 f hf (by omega)).2 k hk), if_pos hf]
    · rw [sm_congr (h := ra Mb o 41) 12 (fun k hk => by rw [e41, if_neg (by omega)])]
      exact P f hf (by omega) (by rw [← e37]; exact h3)
  · have := es_le (M := Mb) (M1 := Md) (o := o) 12 (fun f hf hne => ⟨by rw [e32, e37]; exact ⟨fun ⟨q1, q2⟩ => ⟨by omega, q2⟩, fun ⟨q1, q2⟩ => ⟨by omega, q2⟩⟩, e43 f⟩) (fun f hf => by rw [e43, show f = x from by omega]; exact h43)
    rw [if_pos (by omega)] at this
    omega
  · rw [e43]
    exact (b2 f hf (by omega)).1 (by omega)
  · rw [e41, if_neg (by omega)]
    exact (b2 f hf (by omega)).2 k hk
theorem kc_two {b n : Nat} : (ra M o 7 (b + n) = 8 → kc M o b (n + 1) = kc M o b n + 1) ∧ kc M o b n ≤ kc M o b (n + 1) := by
  have e : kc M o b (n + 1) = kc M o b n + (if ra M o 7 (b + n) = 8 then 1 else 0) := rfl
  refine ⟨fun h => by rw [e, if_pos h], ?_⟩
  rw [e]
  split <;> omega
theorem kc_sh {b b1 : Nat} : ∀ n : Nat, (∀ i : Nat, i < n → ra M o 7 (b + i) = ra M0 o 7 (b1 + i)) → kc M o b n = kc M0 o b1 n
  | 0, _ => rfl
  | n + 1, h => by
    show kc M o b n + _ = kc M0 o b1 n + _
    rw [kc_sh n (fun i hi => h i (by omega)), h n (by omega)]
theorem kc_of {v : Int} {A B C : Prop} (s1 : rv M0 o 19 ≠ 0 → v < 0 ∧ A) (s2 : rv M0 o 19 = 0 → v = 0 ∧ B ∧ rcp M0 M o 7 880 (20 * t) (ra M0 o 6 44) ∧ C) (R0 : rI M0 o) (W : rW M0 o) : 0 ≤ v → kc M o (20 * t) (ra M0 o 6 44).toNat ≤ 6 := fun hv => by
  by_cases w : rv M0 o 19 = 0
  · obtain ⟨-, -, q, -⟩ := s2 w
    rw [kc_sh (M0 := M0) (b1 := 880) _ (fun i hi => q.1 i (by omega))]
    have h1 := (W.2 w).2.2.1
    have h2 := (R0.1 24 _ _ rfl).2
    omega
  · have := (s1 w).1
    omega
end RF
/-! products, long numbers -/
theorem mz_mulb {x y : Int32} {A B : Int} (h0 : 0 ≤ x.toInt) (h1 : x.toInt ≤ A) (h2 : 0 ≤ y.toInt) (h3 : y.toInt ≤ B) (h : A * B ≤ 2147483647) : 0 ≤ (x * y).toInt ∧ (x * y).toInt ≤ A * B := by
  have e1 : 0 ≤ x.toInt * y.toInt := Int.mul_nonneg h0 h2
  have e2 : x.toInt * y.toInt ≤ A * B := Int.mul_le_mul h1 h3 h2 (Int.le_trans h0 h1)
  rw [Int32.toInt_mul, fb_bmod32 (by omega) (by omega)]
  exact ⟨e1, e2⟩
theorem mz_b64 {z : Int} (h1 : -9223372036854775808 ≤ z) (h2 : z < 9223372036854775808) : z.bmod (2 ^ 64) = z := by
  rw [Int.bmod_def]
  split <;> omega
theorem mz_addL {x y : Int64} {a b : Int} (ha : x.toInt = a) (hb : y.toInt = b) (h1 : -9223372036854775808 ≤ a + b) (h2 : a + b ≤ 9223372036854775807) : (x + y).toInt = a + b := by
  subst ha
  subst hb
  rw [Int64.toInt_add]
  exact mz_b64 h1 (by omega)
theorem mz_subL {x y : Int64} {a b : Int} (ha : x.toInt = a) (hb : y.toInt = b) (h1 : -9223372036854775808 ≤ a - b) (h2 : a - b ≤ 9223372036854775807) : (x - y).toInt = a - b := by
  subst ha
  subst hb
  rw [Int64.toInt_sub]
  exact mz_b64 h1 (by omega)
theorem mz_mulLb {x y : Int64} {A B : Int} (h0 : 0 ≤ x.toInt) (h1 : x.toInt ≤ A) (h2 : 0 ≤ y.toInt) (h3 : y.toInt ≤ B) (h : A * B ≤ 9223372036854775807) : 0 ≤ (x * y).toInt ∧ (x * y).toInt ≤ A * B ∧ (x * y).toInt = x.toInt * y.toInt := by
  have e1 : 0 ≤ x.toInt * y.toInt := Int.mul_nonneg h0 h2
  have e2 : x.toInt * y.toInt ≤ A * B := Int.mul_le_mul h1 h3 h2 (Int.le_trans h0 h1)
  rw [Int64.toInt_mul, mz_b64 (by omega) (by omega)]
  exact ⟨e1, e2, rfl⟩
theorem mz_divL {x d : Int64} (h0 : 0 ≤ x.toInt) (h1 : 0 < d.toInt) : (x / d).toInt = x.toInt / d.toInt := by
  have h2 : x.toInt < 2 ^ 63 := Int64.toInt_lt x
  rw [Int64.toInt_div_of_ne_left _ _ (by intro h; subst h; exact absurd h0 (by decide)), Int.tdiv_eq_ediv_of_nonneg h0]
theorem mz_l2i {c : Int64} (h1 : -2147483648 ≤ c.toInt) (h2 : c.toInt ≤ 2147483647) : c.toInt32.toInt = c.toInt := by
  rw [Int64.toInt_toInt32]
  exact fb_bmod32 h1 (by omega)
theorem mz_min9L (x y : Int64) : ∃ v : Int64, (if y < x then y else x) = v ∧ v.toInt ≤ x.toInt ∧ v.toInt ≤ y.toInt ∧ (v.toInt = x.toInt ∨ v.toInt = y.toInt) := by
  by_cases h : y < x
  · refine ⟨y, if_pos h, ?_, Int.le_refl _, Or.inr rfl⟩
    have := Int64.lt_iff_toInt_lt.mp h
    omega
  · refine ⟨x, if_neg h, Int.le_refl _, ?_, Or.inl rfl⟩
    have : ¬ y.toInt < x.toInt := fun h9 => h (Int64.lt_iff_toInt_lt.mpr h9)
    omega
theorem mz_max9L (x y : Int64) : ∃ v : Int64, (if y < x then x else y) = v ∧ x.toInt ≤ v.toInt ∧ y.toInt ≤ v.toInt ∧ (v.toInt = x.toInt ∨ v.toInt = y.toInt) := by
  by_cases h : y < x
  · refine ⟨x, if_pos h, Int.le_refl _, ?_, Or.inl rfl⟩
    have := Int64.lt_iff_toInt_lt.mp h
    omega
  · refine ⟨y, if_neg h, ?_, Int.le_refl _, Or.inr rfl⟩
    have : ¬ y.toInt < x.toInt := fun h9 => h (Int64.lt_iff_toInt_lt.mpr h9)
    omega
section RWK
variable {M : mj_M} {o x : Nat}
theorem rC.w9 {f e k : Nat} {t r r1 : Int32} (C : rC M o x) (R : rI M o) (hf : f < 12) (he : (e : Int) < ra M o 43 f) (hk : k = 80 * f + e) (h44 : t.toInt = ra M o 44 k) (h45 : r.toInt = ra M o 45 k) (h45b : r1.toInt = ra M o 45 k) : rowT M o t.toNatClampNeg r.toNatClampNeg ∧ r1.toNatClampNeg = r.toNatClampNeg := by
  subst hk
  have q1 := R.2 44 _ _ rfl (80 * f + e)
  have q2 := R.2 45 _ _ rfl (80 * f + e)
  have h := rC.end C R hf he
  have e1 := mz_nat9 (i := t) (by omega)
  have e2 := mz_nat9 (i := r) (by omega)
  have e3 := mz_nat9 (i := r1) (by omega)
  rw [show (ra M o 44 (80 * f + e)).toNat = t.toNatClampNeg from by omega, show (ra M o 45 (80 * f + e)).toNat = r.toNatClampNeg from by omega] at h
  exact ⟨h, by omega⟩
theorem rC.w1 {f e : Int32} {k : Nat} {t r r1 m n : Int32} (C : rC M o x) (R : rI M o) (hf : 0 ≤ f.toInt ∧ f.toInt ≤ 11) (he0 : 0 ≤ e.toInt) (he : e.toInt < ra M o 43 f.toNatClampNeg) (hk : (k : Int) = 80 * f.toInt + e.toInt) (h44 : t.toInt = ra M o 44 k) (h45 : r.toInt = ra M o 45 k) (h45b : r1.toInt = ra M o 45 k) (hm : m.toInt = ra M o 11 r.toNatClampNeg) (hn : n.toInt = ra M o 12 r1.toNatClampNeg) : m.toInt ≤ n.toInt ∧ 0 ≤ dq (sT M o t.toNatClampNeg) m.toInt n.toInt 0 := by
  have e1 := mz_nat9 (i := f) hf.1
  have e2 := mz_nat9 (i := e) he0
  obtain ⟨⟨u1, u2, u3, u4⟩, u5⟩ := rC.w9 (f := f.toNatClampNeg) (e := e.toNatClampNeg) C R (by omega) (by omega) (by omega : k = _) h44 h45 h45b
  rw [u5] at hn
  rw [hm, hn]
  exact ⟨u2, u4⟩
theorem rC.w2 {f e : Int32} {k : Nat} {t r r1 m n : Int32} (C : rC M o x) (R : rI M o) (hf : 0 ≤ f.toInt ∧ f.toInt ≤ 11) (he0 : 0 ≤ e.toInt) (he : e.toInt < ra M o 43 f.toNatClampNeg) (hk : (k : Int) = 80 * f.toInt + e.toInt) (h44 : t.toInt = ra M o 44 k) (h45 : r.toInt = ra M o 45 k) (h45b : r1.toInt = ra M o 45 k) (hm : m.toInt = ra M o 10 r.toNatClampNeg) (hn : n.toInt = ra M o 11 r1.toNatClampNeg) : m.toInt ≤ n.toInt ∧ 0 ≤ dq (sT M o t.toNatClampNeg) m.toInt n.toInt 0 := by
  have e1 := mz_nat9 (i := f) hf.1
  have e2 := mz_nat9 (i := e) he0
  obtain ⟨⟨u1, u2, u3, u4⟩, u5⟩ := rC.w9 (f := f.toNatClampNeg) (e := e.toNatClampNeg) C R (by omega) (by omega) (by omega : k = _) h44 h45 h45b
  rw [u5] at hn
  rw [hm, hn]
  exact ⟨u1, u3⟩
theorem rC.w3 {t k r m n : Int32} (C : rC M o x) (R : rI M o) (ht : 0 ≤ t.toInt ∧ t.toInt ≤ 19) (hk : 0 ≤ k.toInt ∧ k.toInt ≤ 19) (hr : (r.toNatClampNeg : Int) = 20 * t.toInt + k.toInt) (h7 : ra M o 7 r.toNatClampNeg = 6) (hm : m.toInt = ra M o 11 r.toNatClampNeg) (hn : n.toInt = ra M o 12 r.toNatClampNeg) : m.toInt ≤ n.toInt ∧ 0 ≤ dq (sT M o t.toNatClampNeg) m.toInt n.toInt 0 := by
  have e1 := mz_nat9 (i := t) ht.1
  have e2 := mz_nat9 (i := k) hk.1
  have er : r.toNatClampNeg = 20 * t.toNatClampNeg + k.toNatClampNeg := by omega
  rw [er] at h7 hm hn
  obtain ⟨u1, u2, u3, u4⟩ := C.1 t.toNatClampNeg k.toNatClampNeg (by omega) (by omega) (Or.inr h7)
  rw [hm, hn]
  exact ⟨u2, u4⟩
end RWK
