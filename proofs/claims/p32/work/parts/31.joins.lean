/-! THE REFERENCE'S SCHEMES, and funds joined -/
def rD1 (M : mj_M) (o f : Nat) : Prop := ∃ e : Nat, (e : Int) < ra M o 43 f ∧ ra M o 46 (80 * f + e) = 1
/-- scheme s can be -/
def rCB (M : mj_M) (o s : Nat) : Prop := 0 ≤ ra M o 55 s ∧ ra M o 55 s < rv M o 32 ∧ ra M o 37 (ra M o 55 s).toNat = -1 ∧ (ra M o 54 s = 0 → rD1 M o (ra M o 55 s).toNat) ∧ (ra M o 54 s = 1 → 0 ≤ ra M o 56 s ∧ ra M o 56 s < rv M o 32 ∧ ra M o 37 (ra M o 56 s).toNat = -1 ∧ ra M o 56 s ≠ ra M o 55 s) ∧ (ra M o 54 s = 2 → ra M o 56 s ≤ ra M o 33 (ra M o 55 s).toNat) ∧ (ra M o 54 s = 3 → ra M o 56 s < ra M o 43 (ra M o 55 s).toNat)
/-- the schemes' subjects -/
def rX (M : mj_M) (o : Nat) : Prop := ∀ s : Nat, s < 40 → (s : Int) < rv M o 53 → 0 ≤ ra M o 56 s ∧ (ra M o 54 s = 0 → ra M o 56 s < rv M o 49) ∧ (ra M o 54 s = 1 → ra M o 56 s < rv M o 32) ∧ (ra M o 54 s = 2 → ra M o 56 s ≤ 999)
section RXX
variable {M0 M M1 : mj_M} {o s : Nat}
theorem rCB.same (h : rCB M o s) (a : sA [33, 37, 43, 46, 54, 55, 56] M M1 o) (f : sF [32] M M1 o) : rCB M1 o s := by
  unfold rCB rD1
  rw [a 33 rfl, a 37 rfl, a 43 rfl, a 46 rfl, a 54 rfl, a 55 rfl, a 56 rfl, f 32 rfl]
  exact h
theorem rX.same (h : rX M o) (a : sA [54, 56] M M1 o) (f : sF [32, 49, 53] M M1 o) : rX M1 o := by
  unfold rX
  rw [a 54 rfl, a 56 rfl, f 32 rfl, f 49 rfl, f 53 rfl]
  exact h
theorem rX.mono (h : rX M o) (a : sA [54, 56] M M1 o) (f : sF [53] M M1 o) (h1 : rv M o 32 ≤ rv M1 o 32) (h2 : rv M o 49 ≤ rv M1 o 49) : rX M1 o := fun s hs h3 => by
  rw [f 53 rfl] at h3
  obtain ⟨q1, q2, q3, q4⟩ := h s hs h3
  rw [a 54 rfl, a 56 rfl]
  exact ⟨q1, fun h9 => by have := q2 h9; omega, fun h9 => by have := q3 h9; omega, q4⟩
theorem rX.out {k n : Nat} {v : Int} (h : rX M o) (A : ∀ j, j ≠ k → rgK j = true → ∀ i, ra M1 o j i = ra M o j i) (e : ∀ j, ra M1 o k j = if j = n then v else ra M o k j) (V : ∀ j, rv M1 o j = rv M o j) (hk : k = 54 ∨ k = 56) (hn : rv M o 53 ≤ n) : rX M1 o := fun s hs h3 => by
  rw [V] at h3
  have q := h s hs h3
  rw [V, V]
  rcases hk with rfl | rfl
  · rw [e, if_neg (by omega), A 56 (by decide) rfl]
    exact q
  · rw [e, if_neg (by omega), A 54 (by decide) rfl]
    exact q
theorem rX.inc {n : Nat} (h : rX M o) (A : ∀ j, j ≠ 53 → ∀ i, ra M1 o j i = ra M o j i) (V : ∀ j, j ≠ 53 → rv M1 o j = rv M o j) (h1 : rv M1 o 53 = rv M o 53 + 1) (hn : (n : Int) = rv M o 53) (c0 : 0 ≤ ra M o 56 n) (c1 : ra M o 54 n = 0 → ra M o 56 n < rv M o 49) (c2 : ra M o 54 n = 1 → ra M o 56 n < rv M o 32) (c3 : ra M o 54 n = 2 → ra M o 56 n ≤ 999) : rX M1 o := fun s hs h3 => by
  rw [A 54 (by decide), A 56 (by decide), V 49 (by decide), V 32 (by decide)]
  by_cases e : s = n
  · subst e
    exact ⟨c0, c1, c2, c3⟩
  · exact h s hs (by omega)
end RXX
theorem jn_div {a b p q : Int} (ha : 0 ≤ a) (hb : 0 ≤ b) (hd : 0 < a + b) (hp0 : 0 ≤ p) (hp : p ≤ 1000000) (hq0 : 0 ≤ q) (hq : q ≤ 1000000) : 0 ≤ (b * p + a * q) / (a + b) ∧ (b * p + a * q) / (a + b) ≤ 1000000 := by
  have h1 : b * p ≤ b * 1000000 := Int.mul_le_mul_of_nonneg_left hp hb
  have h2 : a * q ≤ a * 1000000 := Int.mul_le_mul_of_nonneg_left hq ha
  have h3 : 0 ≤ b * p := Int.mul_nonneg hb hp0
  have h4 : 0 ≤ a * q := Int.mul_nonneg ha hq0
  exact ⟨Int.ediv_nonneg (by omega) (by omega), Int.ediv_le_of_le_mul hd (by omega)⟩
theorem sm_shift {g : Nat → Int} {b : Nat} : ∀ n, sm g b n = sm (fun j => g (b + j)) 0 n
  | 0 => rfl
  | n + 1 => by
    show sm g b n + g (b + n) = sm (fun j => g (b + j)) 0 n + g (b + (0 + n))
    rw [sm_shift n, Nat.zero_add]
theorem jn_sum {a b : Int} {p q w : Nat → Int} (hd : 0 < a + b) : ∀ n : Nat, (∀ j, j < n → w j = (b * p j + a * q j) / (a + b)) → (a + b) * sm w 0 n ≤ b * sm p 0 n + a * sm q 0 n ∧ b * sm p 0 n + a * sm q 0 n ≤ (a + b) * sm w 0 n + n * (a + b - 1)
  | 0, _ => by
    show (a + b) * 0 ≤ b * 0 + a * 0 ∧ b * 0 + a * 0 ≤ (a + b) * 0 + ((0 : Nat) : Int) * (a + b - 1)
    rw [Int.mul_zero, Int.mul_zero, Int.mul_zero]
    exact ⟨by decide, by rw [show ((0 : Nat) : Int) = 0 from rfl, Int.zero_mul]; decide⟩
  | n + 1, h => by
    obtain ⟨h1, h2⟩ := jn_sum hd n (fun j hj => h j (by omega))
    have e := h n (by omega)
    have d1 := Int.mul_ediv_add_emod (b * p n + a * q n) (a + b)
    have d2 := Int.emod_nonneg (b * p n + a * q n) (show a + b ≠ 0 by omega)
    have d3 := Int.emod_lt_of_pos (b * p n + a * q n) hd
    have e1 : sm w 0 (n + 1) = sm w 0 n + w n := by show sm w 0 n + w (0 + n) = _; rw [Nat.zero_add]
    have e2 : sm p 0 (n + 1) = sm p 0 n + p n := by show sm p 0 n + p (0 + n) = _; rw [Nat.zero_add]
    have e3 : sm q 0 (n + 1) = sm q 0 n + q n := by show sm q 0 n + q (0 + n) = _; rw [Nat.zero_add]
    have m1 : (a + b) * (sm w 0 n + w n) = (a + b) * sm w 0 n + (a + b) * w n := Int.mul_add _ _ _
    have m2 : b * (sm p 0 n + p n) = b * sm p 0 n + b * p n := Int.mul_add _ _ _
    have m3 : a * (sm q 0 n + q n) = a * sm q 0 n + a * q n := Int.mul_add _ _ _
    have m4 : ((n + 1 : Nat) : Int) * (a + b - 1) = (n : Int) * (a + b - 1) + (a + b - 1) := by
      rw [show ((n + 1 : Nat) : Int) = (n : Int) + 1 from by omega, Int.add_mul, Int.one_mul]
    rw [e1, e2, e3, m1, m2, m3, m4, e]
    omega
theorem jn_end {a b : Int} {p q w : Nat → Int} (hd : 0 < a + b) (hp : sm p 0 12 = 1000000) (hq : sm q 0 12 = 1000000) (hw : ∀ j, j < 12 → w j = (b * p j + a * q j) / (a + b)) : sm w 0 12 ≤ 1000000 ∧ ∃ j, j < 12 ∧ w j ≠ 0 := by
  obtain ⟨h1, h2⟩ := jn_sum (p := p) (q := q) (w := w) hd 12 hw
  rw [hp, hq] at h1 h2
  refine ⟨?_, ?_⟩
  · by_cases h : sm w 0 12 ≤ 1000000
    · exact h
    · have h3 : (a + b) * 1000001 ≤ (a + b) * sm w 0 12 := Int.mul_le_mul_of_nonneg_left (by omega) (by omega)
      omega
  · refine Classical.byContradiction fun hn => ?_
    have z : ∀ j, j < 12 → w (0 + j) = 0 := fun j hj => Classical.byContradiction fun h => hn ⟨j, hj, by rw [Nat.zero_add] at h; exact h⟩
    rw [sm_zero 12 z, Int.mul_zero] at h2
    omega
/-- the parts of x (X) mixed with those of f (F), k of them so far -/
def rPJ (M0 M : mj_M) (o X F : Nat) (a b k : Int) : Prop := (∀ j : Nat, (j : Int) < k → j < 12 → ra M o 41 (12 * X + j) = (b * ra M0 o 41 (12 * X + j) + a * ra M0 o 41 (12 * F + j)) / (a + b)) ∧ ∀ i : Nat, ¬ (12 * X ≤ i ∧ (i : Int) < 12 * X + k) → ra M o 41 i = ra M0 o 41 i
section RPJ
variable {M0 M M1 : mj_M} {o X F : Nat} {a b k s : Int}
theorem rPJ.rf : rPJ M M o X F a b 0 := ⟨fun j hj => by omega, fun _ _ => rfl⟩
theorem rPJ.same (h : rPJ M0 M o X F a b k) (e : ra M1 o 41 = ra M o 41) : rPJ M0 M1 o X F a b k := by
  unfold rPJ
  rw [e]
  exact h
theorem rPJ.st {q : Nat} {v : Int} (h : rPJ M0 M o X F a b k) (hk : 0 ≤ k) (hk2 : k < 12) (e : ∀ j, ra M1 o 41 j = if j = q then v else ra M o 41 j) (hq : (q : Int) = 12 * X + k) (hv : v = (b * ra M o 41 (12 * X + k.toNat) + a * ra M o 41 (12 * F + k.toNat)) / (a + b)) (hne : F ≠ X) : rPJ M0 M1 o X F a b (k + 1) := by
  obtain ⟨h1, h2⟩ := h
  refine ⟨fun j hj hj2 => ?_, fun i hi => ?_⟩
  · rw [e]
    by_cases hjk : (j : Int) = k
    · rw [if_pos (by omega), hv, h2 (12 * X + k.toNat) (by omega), h2 (12 * F + k.toNat) (by omega), show k.toNat = j from by omega]
    · rw [if_neg (by omega)]
      exact h1 j (by omega) hj2
  · rw [e, if_neg (by omega)]
    exact h2 i (by omega)
/-- the sum of k of them -/
def rPS (M : mj_M) (o X : Nat) (k s : Int) : Prop := sm (ra M o 41) (12 * X) k.toNat = s
theorem rPS.st {q : Nat} {v : Int} (h : rPS M o X k s) (hk : 0 ≤ k) (e : ∀ j, ra M1 o 41 j = if j = q then v else ra M o 41 j) (hq : (q : Int) = 12 * X + k) : rPS M1 o X (k + 1) (s + v) := by
  unfold rPS at *
  rw [show (k + 1).toNat = k.toNat + 1 from by omega]
  show sm (ra M1 o 41) (12 * X) k.toNat + ra M1 o 41 (12 * X + k.toNat) = _
  rw [sm_congr (h := ra M o 41) k.toNat (fun i hi => by rw [e, if_neg (by omega)]), h, e, if_pos (by omega)]
theorem rPS.add {q n : Nat} {v d : Int} (e : ∀ j, ra M1 o 41 j = if j = q then v else ra M o 41 j) (hn : q = 12 * X + n) (hv : v = ra M o 41 q + d) : ∀ m : Nat, sm (ra M1 o 41) (12 * X) m = sm (ra M o 41) (12 * X) m + (if n < m then d else 0)
  | 0 => by rw [if_neg (by omega)]; rfl
  | m + 1 => by
    show sm (ra M1 o 41) (12 * X) m + ra M1 o 41 (12 * X + m) = sm (ra M o 41) (12 * X) m + ra M o 41 (12 * X + m) + _
    rw [rPS.add e hn hv m, e]
    by_cases h1 : n = m
    · subst h1
      rw [if_neg (by omega), if_pos hn.symm, if_pos (by omega), hv, hn]
      omega
    · rw [if_neg (show ¬ 12 * X + m = q by omega)]
      by_cases h2 : n < m
      · rw [if_pos h2, if_pos (by omega)]
        omega
      · rw [if_neg h2, if_neg (by omega)]
        omega
theorem rPJ.fin (h : rPJ M0 M o X F a b 12) (hd : 0 < a + b) (h1 : sm (ra M0 o 41) (12 * X) 12 = 1000000) (h2 : sm (ra M0 o 41) (12 * F) 12 = 1000000) : sm (ra M o 41) (12 * X) 12 ≤ 1000000 ∧ ∃ j : Nat, j < 12 ∧ ra M o 41 (12 * X + j) ≠ 0 := by
  rw [sm_shift] at h1 h2 ⊢
  exact jn_end hd h1 h2 (fun j hj => h.1 j (by omega) hj)
theorem es_two {X F : Nat} : ∀ n : Nat, (∀ f : Nat, f < n → ((f : Int) < rv M o 32 ↔ (f : Int) < rv M0 o 32) ∧ (f ≠ F → ra M o 37 f = ra M0 o 37 f) ∧ (f ≠ X → ra M o 43 f = ra M0 o 43 f)) → ra M o 37 F ≠ -1 → (F : Int) < rv M0 o 32 → ra M0 o 37 F = -1 → F ≠ X → 0 ≤ ra M o 43 X - ra M0 o 43 X → es M o n ≤ es M0 o n + (if X < n then ra M o 43 X - ra M0 o 43 X else 0) - (if F < n then ra M0 o 43 F else 0)
  | 0, _, _, _, _, _, _ => by rw [if_neg (by omega), if_neg (by omega)]; show (0 : Int) ≤ (0 : Int) + 0 - 0; decide
  | n + 1, h, hF, hF2, hF3, hne, h0 => by
    have ih := es_two n (fun f hf => h f (by omega)) hF hF2 hF3 hne h0
    obtain ⟨e1, e2, e3⟩ := h n (by omega)
    show es M o n + _ ≤ es M0 o n + _ + _ - _
    by_cases hnF : n = F
    · subst hnF
      rw [if_neg (show ¬ n < n by omega)] at ih
      rw [if_neg (show ¬ ((n : Int) < rv M o 32 ∧ ra M o 37 n = -1) from fun h9 => hF h9.2), if_pos (show (n : Int) < rv M0 o 32 ∧ ra M0 o 37 n = -1 from ⟨hF2, hF3⟩), if_pos (show n < n + 1 by omega)]
      by_cases h1 : X < n
      · rw [if_pos h1] at ih
        rw [if_pos (show X < n + 1 by omega)]
        omega
      · rw [if_neg h1] at ih
        rw [if_neg (show ¬ X < n + 1 by omega)]
        omega
    · have f1 : (if F < n + 1 then ra M0 o 43 F else 0) = if F < n then ra M0 o 43 F else 0 := by
        by_cases h9 : F < n
        · rw [if_pos h9, if_pos (by omega)]
        · rw [if_neg h9, if_neg (by omega)]
      rw [f1, e2 hnF]
      by_cases hc : (n : Int) < rv M0 o 32 ∧ ra M0 o 37 n = -1
      · rw [if_pos (show (n : Int) < rv M o 32 ∧ ra M0 o 37 n = -1 from ⟨e1.mpr hc.1, hc.2⟩), if_pos hc]
        by_cases hX : n = X
        · subst hX
          rw [if_neg (show ¬ n < n by omega)] at ih
          rw [if_pos (show n < n + 1 by omega)]
          omega
        · have f2 : (if X < n + 1 then ra M o 43 X - ra M0 o 43 X else 0) = if X < n then ra M o 43 X - ra M0 o 43 X else 0 := by
            by_cases h9 : X < n
            · rw [if_pos h9, if_pos (by omega)]
            · rw [if_neg h9, if_neg (by omega)]
          rw [f2, e3 hX]
          omega
      · rw [if_neg (show ¬ ((n : Int) < rv M o 32 ∧ ra M0 o 37 n = -1) from fun h9 => hc ⟨e1.mp h9.1, h9.2⟩), if_neg hc]
        by_cases h1 : X < n
        · rw [if_pos h1] at ih
          rw [if_pos (show X < n + 1 by omega)]
          omega
        · rw [if_neg h1] at ih
          by_cases h2 : X < n + 1
          · rw [if_pos h2]
            omega
          · rw [if_neg h2]
            omega
/-- what two funds that aren't joined have -/
theorem es_pair {X F : Nat} (hX : (X : Int) < rv M o 32 ∧ ra M o 37 X = -1) (hF : (F : Int) < rv M o 32 ∧ ra M o 37 F = -1) (hne : F ≠ X) (h0 : ∀ i, 0 ≤ ra M o 43 i) : ∀ n : Nat, (if X < n then ra M o 43 X else 0) + (if F < n then ra M o 43 F else 0) ≤ es M o n
  | 0 => by rw [if_neg (by omega), if_neg (by omega)]; show (0 : Int) + 0 ≤ (0 : Int); decide
  | n + 1 => by
    have ih := es_pair hX hF hne h0 n
    show _ ≤ es M o n + _
    have h9 := h0 n
    by_cases hnF : n = F
    · subst hnF
      rw [if_neg (show ¬ n < n by omega)] at ih
      rw [if_pos (show n < n + 1 by omega), if_pos hF]
      by_cases h1 : X < n
      · rw [if_pos h1] at ih
        rw [if_pos (show X < n + 1 by omega)]
        omega
      · rw [if_neg h1] at ih
        rw [if_neg (show ¬ X < n + 1 by omega)]
        omega
    · by_cases hnX : n = X
      · subst hnX
        rw [if_neg (show ¬ n < n by omega)] at ih
        rw [if_pos (show n < n + 1 by omega), if_pos hX]
        by_cases h1 : F < n
        · rw [if_pos h1] at ih
          rw [if_pos (show F < n + 1 by omega)]
          omega
        · rw [if_neg h1] at ih
          rw [if_neg (show ¬ F < n + 1 by omega)]
          omega
      · have f1 : (if F < n + 1 then ra M o 43 F else 0) = if F < n then ra M o 43 F else 0 := by
          by_cases h8 : F < n
          · rw [if_pos h8, if_pos (by omega)]
          · rw [if_neg h8, if_neg (by omega)]
        have f2 : (if X < n + 1 then ra M o 43 X else 0) = if X < n then ra M o 43 X else 0 := by
          by_cases h8 : X < n
          · rw [if_pos h8, if_pos (by omega)]
          · rw [if_neg h8, if_neg (by omega)]
        rw [f1, f2]
        split <;> omega
/-- a fund is joined -/
theorem rPB.join {x9 : Int} (P : rP M0 o) (B : rB M0 o 12) (hX : X < 12 ∧ (X : Int) < rv M0 o 32 ∧ ra M0 o 37 X = -1) (hF : F < 12 ∧ (F : Int) < rv M0 o 32 ∧ ra M0 o 37 F = -1) (hne : F ≠ X) (e43 : ∀ i, i ≠ X → ra M o 43 i = ra M0 o 43 i) (h43 : ra M0 o 43 X ≤ ra M o 43 X ∧ ra M o 43 X ≤ ra M0 o 43 X + ra M0 o 43 F) (e37 : ∀ i, ra M o 37 i = if i = F then x9 else ra M0 o 37 i) (hx9 : x9 ≠ -1) (e41 : ∀ i : Nat, ¬ (12 * X ≤ i ∧ (i : Int) < 12 * X + 12) → ra M o 41 i = ra M0 o 41 i) (hs : sm (ra M o 41) (12 * X) 12 = 1000000) (f : rv M o 32 = rv M0 o 32) : rP M o ∧ rB M o 12 := by
  obtain ⟨b1, b2⟩ := B
  obtain ⟨x1, x2, x3⟩ := hX
  obtain ⟨f1, f2, f3⟩ := hF
  refine ⟨fun g hg h1 h2 => ?_, ?_, fun g hg h1 => ⟨fun _ => ?_, fun k hk => ?_⟩⟩
  · rw [e37] at h2
    by_cases hgF : g = F
    · rw [if_pos hgF] at h2
      exact absurd h2 hx9
    · rw [if_neg hgF] at h2
      by_cases hgX : g = X
      · rw [hgX]
        exact hs
      · rw [sm_congr (h := ra M0 o 41) 12 (fun k hk => e41 _ (by omega))]
        exact P g hg (by omega) h2
  · have h := es_two (M := M) (M0 := M0) (o := o) (X := X) (F := F) 12 (fun g hg => ⟨by rw [f], fun h9 => by rw [e37, if_neg h9], fun h9 => e43 g h9⟩) (by rw [e37, if_pos rfl]; exact hx9) f2 f3 hne (by omega)
    rw [if_pos (by omega), if_pos (by omega)] at h
    rw [f]
    omega
  · rw [f] at h1
    rw [e43 g (by omega)]
    exact (b2 g hg h1).1 (by omega)
  · rw [f] at h1
    rw [e41 _ (by omega)]
    exact (b2 g hg h1).2 k hk
end RPJ
theorem sm_mem {g : Nat → Int} {b j : Nat} : ∀ n : Nat, (∀ k, k < n → 0 ≤ g (b + k)) → j < n → g (b + j) ≤ sm g b n ∧ 0 ≤ sm g b n
  | 0, _, h => by omega
  | n + 1, h0, h => by
    have h1 := h0 n (by omega)
    have e : sm g b (n + 1) = sm g b n + g (b + n) := rfl
    have hp : 0 ≤ sm g b n := by
      by_cases hn : n = 0
      · subst hn
        exact Int.le_refl 0
      · exact (sm_mem (j := 0) n (fun k hk => h0 k (by omega)) (by omega)).2
    by_cases hj : j = n
    · subst hj
      omega
    · have := (sm_mem (j := j) n (fun k hk => h0 k (by omega)) (by omega)).1
      omega
theorem rPS.cast {M : mj_M} {o X : Nat} {k k1 s s1 : Int} (h : rPS M o X k s) (hk : k = k1) (hs : s = s1) : rPS M o X k1 s1 := hk ▸ hs ▸ h
theorem rPJ.cast {M0 M : mj_M} {o X F : Nat} {a b k k1 : Int} (h : rPJ M0 M o X F a b k) (hk : k = k1) : rPJ M0 M o X F a b k1 := hk ▸ h
theorem d1_step {g : Nat → Int} {b : Nat} {z z1 : Int} (h : ∀ e : Nat, (e : Int) < z → g (b + e) ≠ 1) (hz : z1 = z + 1) (hv : ∀ e : Nat, (e : Int) = z → g (b + e) ≠ 1) : ∀ e : Nat, (e : Int) < z1 → g (b + e) ≠ 1 := fun e he => by
  by_cases h9 : (e : Int) = z
  · exact hv e h9
  · exact h e (by omega)
theorem jn_prod {b p : Int} (h0 : 0 ≤ b) (h1 : b ≤ 1000000000000) (h2 : 0 ≤ p) (h3 : p ≤ 1000000) : 0 ≤ b * p ∧ b * p ≤ 1000000000000000000 := by
  have := Int.mul_le_mul h1 h3 h2 (Int.le_trans h0 h1)
  exact ⟨Int.mul_nonneg h0 h2, by omega⟩
