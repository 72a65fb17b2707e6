/-! THE REFERENCE'S CODES: numbers of sums; what a code does to a heap's height -/
theorem mz_add2 {x y : Int32} {a b : Int} (ha : x.toInt = a) (hb : y.toInt = b) (h1 : -2147483648 ≤ a + b) (h2 : a + b ≤ 2147483647) : (x + y).toInt = a + b := by
  subst ha
  subst hb
  exact mz_addc y h1 h2
theorem mz_sub2 {x y : Int32} {a b : Int} (ha : x.toInt = a) (hb : y.toInt = b) (h1 : -2147483648 ≤ a - b) (h2 : a - b ≤ 2147483647) : (x - y).toInt = a - b := by
  subst ha
  exact mz_subn y b hb h1 h2
theorem mz_mul2 {x y : Int32} {a b : Int} (ha : x.toInt = a) (hb : y.toInt = b) (h1 : -2147483648 ≤ a * b) (h2 : a * b ≤ 2147483647) : (x * y).toInt = a * b := by
  subst ha
  subst hb
  rw [Int32.toInt_mul]
  exact fb_bmod32 h1 (by omega)
theorem mz_cn {x : Int32} {n : Nat} (h : x.toInt = (n : Int)) : x.toNatClampNeg = n := mz_clampI h
/-- what a sign does to the height of the heap: below 0 once it ran under -/
def cst (s t : Int) : Int := if t < 0 then t else if 0 ≤ s then t + 1 else if s = -9 then (if 1 ≤ t then t else -1) else (if 2 ≤ t then t - 1 else -1)
def dp (f : Nat → Int) : Nat → Nat → Int → Int
  | 0, _, t => t
  | n + 1, i, t => dp f n (i + 1) (cst (f i) t)
def dq (f : Nat → Int) (a b t : Int) : Int := dp f (b - a).toNat a.toNat t
theorem cst_neg {s t : Int} (h : t < 0) : cst s t < 0 := by
  unfold cst
  rw [if_pos h]
  exact h
theorem dp_neg {f : Nat → Int} : ∀ (n i : Nat) (t : Int), t < 0 → dp f n i t < 0
  | 0, _, _, h => h
  | n + 1, i, _, h => dp_neg n (i + 1) _ (cst_neg h)
theorem dp_app {f : Nat → Int} : ∀ (n m i : Nat) (t : Int), dp f (n + m) i t = dp f m (i + n) (dp f n i t)
  | 0, m, i, t => by rw [Nat.zero_add]; rfl
  | n + 1, m, i, t => by
    rw [Nat.succ_add]
    show dp f (n + m) (i + 1) (cst (f i) t) = dp f m (i + (n + 1)) (dp f n (i + 1) (cst (f i) t))
    rw [dp_app n m (i + 1), show i + 1 + n = i + (n + 1) from by omega]
theorem dp_congr {f g : Nat → Int} : ∀ (n i : Nat) (t : Int), (∀ j, i ≤ j → j < i + n → f j = g j) → dp f n i t = dp g n i t
  | 0, _, _, _ => rfl
  | n + 1, i, t, h => by
    show dp f n (i + 1) (cst (f i) t) = dp g n (i + 1) (cst (g i) t)
    rw [h i (Nat.le_refl _) (by omega)]
    exact dp_congr n (i + 1) _ fun j h1 h2 => h j (by omega) (by omega)
theorem dq_rf {f : Nat → Int} {a t : Int} : dq f a a t = t := by
  unfold dq
  rw [Int.sub_self]
  rfl
theorem dq_trans {f : Nat → Int} {a b c t : Int} (h0 : 0 ≤ a) (hab : a ≤ b) (hbc : b ≤ c) : dq f a c t = dq f b c (dq f a b t) := by
  unfold dq
  rw [show (c - a).toNat = (b - a).toNat + (c - b).toNat from by omega, dp_app, show a.toNat + (b - a).toNat = b.toNat from by omega]
theorem dq_congr {f g : Nat → Int} {a b t : Int} (h0 : 0 ≤ a) (h : ∀ i : Nat, a ≤ (i : Int) → (i : Int) < b → f i = g i) : dq f a b t = dq g a b t := by
  unfold dq
  exact dp_congr _ _ _ fun j h1 h2 => h j (by omega) (by omega)
theorem dq_one {f : Nat → Int} {a t : Int} (h0 : 0 ≤ a) : dq f a (a + 1) t = cst (f a.toNat) t := by
  unfold dq
  rw [show (a + 1 - a).toNat = 0 + 1 from by omega]
  rfl
theorem dq_step {f : Nat → Int} {a b t : Int} (h0 : 0 ≤ a) (hab : a < b) (ht : 0 ≤ t) (h : 0 ≤ dq f a b t) : (0 ≤ f a.toNat → 0 ≤ dq f (a + 1) b (t + 1)) ∧ (f a.toNat = -9 → 1 ≤ t ∧ 0 ≤ dq f (a + 1) b t) ∧ (f a.toNat < 0 → f a.toNat ≠ -9 → 2 ≤ t ∧ 0 ≤ dq f (a + 1) b (t - 1)) := by
  rw [dq_trans h0 (show a ≤ a + 1 by omega) (by omega), dq_one h0] at h
  have ng : ∀ u : Int, u < 0 → ¬ 0 ≤ dq f (a + 1) b u := fun u hu h9 => by
    have := dp_neg (f := f) (b - (a + 1)).toNat (a + 1).toNat u hu
    unfold dq at h9
    omega
  unfold cst at h
  rw [if_neg (by omega)] at h
  refine ⟨fun h1 => ?_, fun h1 => ?_, fun h1 h2 => ?_⟩
  · rw [if_pos h1] at h
    exact h
  · rw [if_neg (by omega), if_pos h1] at h
    by_cases h3 : 1 ≤ t
    · rw [if_pos h3] at h
      exact ⟨h3, h⟩
    · rw [if_neg h3] at h
      exact absurd h (ng _ (by decide))
  · rw [if_neg (by omega), if_neg h2] at h
    by_cases h3 : 2 ≤ t
    · rw [if_pos h3] at h
      exact ⟨h3, h⟩
    · rw [if_neg h3] at h
      exact absurd h (ng _ (by decide))
/-- the signs of the text that is being read -/
def sN (M : mj_M) (o i : Nat) : Int := ra M o 4 (18480 + i)
/-- the token at hand -/
def rT (M : mj_M) (o : Nat) : Prop := rv M o 16 ≤ rv M o 15 ∧ (rv M o 17 ≠ 0 → rv M o 16 < rv M o 15) ∧ (rv M o 17 = 2 → 0 ≤ rv M o 18)
/-- read since M0: while well, z more on the heap's height, c more tokens than signs -/
def rE (M0 M : mj_M) (o : Nat) (z c : Int) : Prop := rT M o ∧ rv M0 o 16 ≤ rv M o 16 ∧ (∀ i : Nat, i < 18480 → ra M o 4 i = ra M0 o 4 i) ∧ (rv M o 19 = 0 → rv M0 o 19 = 0 ∧ ra M0 o 5 44 ≤ ra M o 5 44 ∧ rv M0 o 16 - ra M0 o 5 44 + c ≤ rv M o 16 - ra M o 5 44 ∧ (∀ i : Nat, (i : Int) < ra M0 o 5 44 → sN M o i = sN M0 o i) ∧ ∀ t : Int, 0 ≤ t → dq (sN M o) (ra M0 o 5 44) (ra M o 5 44) t = t + z)
/-- a sign was put behind the others, while well -/
def rM (M0 M : mj_M) (o : Nat) (s : Int) : Prop := (∀ i : Nat, i < 18480 → ra M o 4 i = ra M0 o 4 i) ∧ (rv M0 o 19 = 0 → ra M o 5 44 = ra M0 o 5 44 + 1 ∧ sN M o (ra M0 o 5 44).toNat = s ∧ ∀ i : Nat, i ≠ (ra M0 o 5 44).toNat → sN M o i = sN M0 o i) ∧ (rv M0 o 19 ≠ 0 → ra M o 5 44 = ra M0 o 5 44)
section RE
variable {M0 M M1 : mj_M} {o : Nat} {z c z1 c1 : Int}
theorem rT.f (h : rT M o) : rv M o 16 ≤ rv M o 15 ∧ (rv M o 17 ≠ 0 → rv M o 16 < rv M o 15) ∧ (rv M o 17 = 2 → 0 ≤ rv M o 18) := h
theorem rE.f (h : rE M0 M o z c) (h0 : rv M0 o 19 = 0 → ra M0 o 5 44 ≤ rv M0 o 16) : rv M o 16 ≤ rv M o 15 ∧ (rv M o 17 ≠ 0 → rv M o 16 < rv M o 15) ∧ (rv M o 17 = 2 → 0 ≤ rv M o 18) ∧ rv M0 o 16 ≤ rv M o 16 ∧ (rv M o 19 = 0 → rv M0 o 19 = 0 ∧ rv M0 o 16 - ra M0 o 5 44 + c ≤ rv M o 16 - ra M o 5 44 ∧ ra M o 5 44 + c ≤ rv M o 16 ∧ ra M0 o 5 44 ≤ ra M o 5 44) := by
  obtain ⟨⟨a1, a2, a3⟩, a4, -, a5⟩ := h
  refine ⟨a1, a2, a3, a4, fun h9 => ?_⟩
  obtain ⟨b1, b2, b3, -⟩ := a5 h9
  exact ⟨b1, b3, by have := h0 b1; omega, b2⟩
theorem rE.w (h : rE M0 M o z c) : rv M0 o 16 ≤ rv M o 16 ∧ (rv M o 19 = 0 → rv M0 o 19 = 0) := ⟨h.2.1, fun h9 => (h.2.2.2 h9).1⟩
theorem rE.rf (h : rT M o) : rE M M o 0 0 := ⟨h, Int.le_refl _, fun _ _ => rfl, fun h => ⟨h, Int.le_refl _, by omega, fun _ _ => rfl, fun t _ => by rw [dq_rf]; omega⟩⟩
theorem rE.same (h : rE M0 M o z c) (hv : ∀ k, 15 ≤ k → k ≤ 19 → rv M1 o k = rv M o k) (ha : ∀ k, 4 ≤ k → k ≤ 5 → ∀ i, ra M1 o k i = ra M o k i) : rE M0 M1 o z c := by
  have e : ∀ i, sN M1 o i = sN M o i := fun i => ha 4 (by decide) (by decide) _
  have e2 : sN M1 o = sN M o := funext e
  obtain ⟨⟨a1, a2, a3⟩, a4, a6, a5⟩ := h
  refine ⟨?_, ?_, fun i hi => (ha 4 (by decide) (by decide) i).trans (a6 i hi), ?_⟩
  · unfold rT
    rw [hv 15 (by decide) (by decide), hv 16 (by decide) (by decide), hv 17 (by decide) (by decide), hv 18 (by decide) (by decide)]
    exact ⟨a1, a2, a3⟩
  · rw [hv 16 (by decide) (by decide)]
    exact a4
  · rw [hv 16 (by decide) (by decide), hv 19 (by decide) (by decide), ha 5 (by decide) (by decide), e2]
    exact a5
theorem rE.vac (h : rE M0 M o z c) (hf : rv M o 19 ≠ 0) (z1 c1 : Int) : rE M0 M o z1 c1 := ⟨h.1, h.2.1, h.2.2.1, fun h9 => absurd h9 hf⟩
theorem rE.less (h : rE M0 M o z c) (hc : c1 ≤ c) : rE M0 M o z c1 := ⟨h.1, h.2.1, h.2.2.1, fun h9 => by obtain ⟨b1, b2, b3, b4⟩ := h.2.2.2 h9; exact ⟨b1, b2, by omega, b4⟩⟩
/-- only the fault was told -/
theorem rE.fails (h : rE M0 M o z c) (hv : ∀ k, 15 ≤ k → k ≤ 18 → rv M1 o k = rv M o k) (ha : ∀ k, 4 ≤ k → k ≤ 5 → ∀ i, ra M1 o k i = ra M o k i) (hf : rv M1 o 19 ≠ 0) (z1 c1 : Int) : rE M0 M1 o z1 c1 := by
  obtain ⟨⟨a1, a2, a3⟩, a4, a6, a5⟩ := h
  refine ⟨?_, ?_, fun i hi => (ha 4 (by decide) (by decide) i).trans (a6 i hi), fun h9 => absurd h9 hf⟩
  · unfold rT
    rw [hv 15 (by decide) (by decide), hv 16 (by decide) (by decide), hv 17 (by decide) (by decide), hv 18 (by decide) (by decide)]
    exact ⟨a1, a2, a3⟩
  · rw [hv 16 (by decide) (by decide)]
    exact a4
/-- the next token -/
theorem rE.next (h : rE M0 M o z c) (ht : rT M1 o) (hp : rv M o 15 ≤ rv M1 o 16) (hf : rv M1 o 19 = rv M o 19) (ha : ∀ k, 4 ≤ k → k ≤ 5 → ∀ i, ra M1 o k i = ra M o k i) {e : Int} (he : rv M o 16 + e ≤ rv M o 15) (hc : c1 ≤ c + e) : rE M0 M1 o z c1 := by
  have e2 : sN M1 o = sN M o := funext fun i => ha 4 (by decide) (by decide) _
  obtain ⟨⟨a1, a2, a3⟩, a4, a6, a5⟩ := h
  refine ⟨ht, by omega, fun i hi => (ha 4 (by decide) (by decide) i).trans (a6 i hi), fun h9 => ?_⟩
  obtain ⟨b1, b2, b3, b4⟩ := a5 (hf ▸ h9)
  rw [ha 5 (by decide) (by decide), e2]
  exact ⟨b1, b2, by omega, b4⟩
theorem rE.trans (h : rE M0 M o z c) (h1 : rE M M1 o z1 c1) (hz : 0 ≤ z) (hs : 0 ≤ ra M0 o 5 44) {z2 c2 : Int} (hz2 : z2 = z + z1) (hc2 : c2 ≤ c + c1) : rE M0 M1 o z2 c2 := by
  obtain ⟨-, a4, a6, a5⟩ := h
  obtain ⟨q1, q4, q6, q5⟩ := h1
  refine ⟨q1, by omega, fun i hi => (q6 i hi).trans (a6 i hi), fun h9 => ?_⟩
  obtain ⟨d1, d2, d3, d4, d5⟩ := q5 h9
  obtain ⟨b1, b2, b3, b4, b5⟩ := a5 d1
  refine ⟨b1, by omega, by omega, fun i hi => (d4 i (by omega)).trans (b4 i hi), fun t ht => ?_⟩
  rw [dq_trans hs b2 d2, dq_congr (g := sN M o) hs (fun i h1 h2 => d4 i h2), b5 t ht, d5 (t + z) (by omega)]
  omega
theorem rE.emit (h : rE M0 M o z c) {s : Int} (h1 : rM M M1 o s) (hv : ∀ k, 15 ≤ k → k ≤ 19 → rv M1 o k = rv M o k) (hs : 0 ≤ ra M0 o 5 44) (hz : 0 ≤ z) (hc : 0 ≤ s ∧ z1 = z + 1 ∨ s = -9 ∧ 1 ≤ z ∧ z1 = z ∨ s < 0 ∧ s ≠ -9 ∧ 2 ≤ z ∧ z1 = z - 1) (hc1 : c1 ≤ c - 1) : rE M0 M1 o z1 c1 := by
  obtain ⟨⟨a1, a2, a3⟩, a4, a6, a5⟩ := h
  obtain ⟨m1, m2, m3⟩ := h1
  refine ⟨?_, ?_, fun i hi => (m1 i hi).trans (a6 i hi), fun h9 => ?_⟩
  · unfold rT
    rw [hv 15 (by decide) (by decide), hv 16 (by decide) (by decide), hv 17 (by decide) (by decide), hv 18 (by decide) (by decide)]
    exact ⟨a1, a2, a3⟩
  · rw [hv 16 (by decide) (by decide)]
    exact a4
  · rw [hv 19 (by decide) (by decide)] at h9
    obtain ⟨b1, b2, b3, b4, b5⟩ := a5 h9
    obtain ⟨n1, n2, n3⟩ := m2 h9
    rw [hv 16 (by decide) (by decide), n1]
    refine ⟨b1, by omega, by omega, fun i hi => (n3 i (by omega)).trans (b4 i hi), fun t ht => ?_⟩
    rw [dq_trans hs b2 (show ra M o 5 44 ≤ ra M o 5 44 + 1 by omega), dq_one (by omega), n2, dq_congr (g := sN M o) hs (fun i h1 h2 => n3 i (by omega)), b5 t ht]
    unfold cst
    rw [if_neg (by omega)]
    rcases hc with ⟨e1, e2⟩ | ⟨e1, e2, e3⟩ | ⟨e1, e2, e3, e4⟩
    · rw [if_pos e1]
      omega
    · rw [if_neg (by omega), if_pos e1, if_pos (by omega)]
      omega
    · rw [if_neg (by omega), if_neg e2, if_pos (by omega)]
      omega
end RE
section RJ
variable {W W1 : Nat → Bool} {x x1 n0 nx n1 o : Nat} {T0 T T1 : tm_H} {M0 M M1 : mj_M}
theorem rv_c {k : Nat} (I : tm_I tm_FT W x T0 M0 n0 T M nx) (J : tm_I tm_FT W1 x1 T M nx T1 M1 n1) (to : T o = some (0, 13, 0)) (hW : W1 (1300 + k) = false) : rv M1 o k = rv M o k := by
  obtain ⟨fs, hm, -⟩ := I.1 o _ to
  exact (rv_call J to ⟨fs, hm⟩ hW).1
theorem rE_hv (I : tm_I tm_FT W x T0 M0 n0 T M nx) (J : tm_I tm_FT W1 x1 T M nx T1 M1 n1) (to : T o = some (0, 13, 0)) (a b : Nat) (h : ((List.range (b + 1)).all fun k => decide (k < a) || !(W1 (1300 + k))) = true) : ∀ k, a ≤ k → k ≤ b → rv M1 o k = rv M o k := by
  intro k h1 h2
  have q := List.all_eq_true.mp h k (List.mem_range.mpr (by omega))
  rw [decide_eq_false (by omega), Bool.false_or] at q
  exact rv_c I J to (by simpa using q)
theorem rE_ha (I : tm_I tm_FT W x T0 M0 n0 T M nx) (J : tm_I tm_FT W1 x1 T M nx T1 M1 n1) (to : T o = some (0, 13, 0)) (h : (!(W1 1304) && !(W1 1305) && !(W1 20004) && !(W1 20005)) = true) : ∀ k, 4 ≤ k → k ≤ 5 → ∀ i, ra M1 o k i = ra M o k i := by
  intro k h1 h2 i
  simp only [Bool.and_eq_true, Bool.not_eq_true'] at h
  obtain ⟨⟨⟨a1, a2⟩, a3⟩, a4⟩ := h
  rcases (show k = 4 ∨ k = 5 by omega) with rfl | rfl
  · exact ra_call I J to rfl a1 a3 i
  · exact ra_call I J to rfl a2 a4 i
theorem rT_of (h1 : rv M o 16 ≤ rv M o 15) (h2 : rv M o 17 ≠ 0 → rv M o 16 < rv M o 15) (h3 : rv M o 17 = 2 → 0 ≤ rv M o 18) : rT M o := ⟨h1, h2, h3⟩
theorem rM.of {s : Int} {n : Nat} (hf : rv M0 o 19 = 0) (h0 : 0 ≤ ra M0 o 5 44) (e1 : ∀ j, ra M1 o 4 j = if j = n then s else ra M0 o 4 j) (hn : (n : Int) = 18480 + ra M0 o 5 44) (a2 : ∀ i, ra M o 4 i = ra M1 o 4 i) (e2 : ra M o 5 44 = ra M0 o 5 44 + 1) : rM M0 M o s := by
  refine ⟨fun i hi => ?_, fun _ => ⟨e2, ?_, fun i hi => ?_⟩, fun h => absurd hf h⟩
  · rw [a2, e1, if_neg (by omega)]
  · unfold sN
    rw [a2, e1, if_pos (by omega)]
  · unfold sN
    rw [a2, e1, if_neg (by omega)]
end RJ
