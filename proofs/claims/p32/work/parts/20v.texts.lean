/-! THE REFERENCE'S TEXTS: what is kept when nothing of it is written; the rows of a text; texts that are kept -/
def sA (L : List Nat) (M M1 : mj_M) (o : Nat) : Prop := ∀ k, L.contains k = true → ra M1 o k = ra M o k
def sF (L : List Nat) (M M1 : mj_M) (o : Nat) : Prop := ∀ k, L.contains k = true → rv M1 o k = rv M o k
section SA
variable {W W1 : Nat → Bool} {x x1 n0 nx n1 o : Nat} {T0 T T1 : tm_H} {M0 M M1 : mj_M} {L : List Nat}
theorem sA_f {k : Nat} (A : ∀ j, j ≠ k → ∀ i, ra M1 o j i = ra M o j i) (h : L.contains k = false) : sA L M M1 o := fun j hj => funext fun i => A j (by rintro rfl; rw [h] at hj; cases hj) i
theorem sF_f {k : Nat} (V : ∀ j, j ≠ k → rv M1 o j = rv M o j) (h : L.contains k = false) : sF L M M1 o := fun j hj => V j (by rintro rfl; rw [h] at hj; cases hj)
theorem sA_a {k : Nat} (A : ∀ j, j ≠ k → rgK j = true → ∀ i, ra M1 o j i = ra M o j i) (h : (L.all fun j => rgK j && !(j == k)) = true) : sA L M M1 o := fun j hj => by
  have q := List.all_eq_true.mp h j (by simpa using hj)
  rw [Bool.and_eq_true] at q
  exact funext fun i => A j (fun e => by subst e; simp at q) q.1 i
theorem sF_a (V : ∀ j, rv M1 o j = rv M o j) : sF L M M1 o := fun j _ => V j
theorem sA_c (I : tm_I tm_FT W x T0 M0 n0 T M nx) (J : tm_I tm_FT W1 x1 T M nx T1 M1 n1) (to : T o = some (0, 13, 0)) (h : (L.all fun j => rgK j && (!(W1 (1300 + j)) && !(W1 (20000 + j)))) = true) : sA L M M1 o := fun j hj => by
  have q := List.all_eq_true.mp h j (by simpa using hj)
  simp only [Bool.and_eq_true, Bool.not_eq_true'] at q
  exact funext fun i => ra_call I J to q.1 q.2.1 q.2.2 i
theorem sF_c (I : tm_I tm_FT W x T0 M0 n0 T M nx) (J : tm_I tm_FT W1 x1 T M nx T1 M1 n1) (to : T o = some (0, 13, 0)) (h : (L.all fun j => !(W1 (1300 + j))) = true) : sF L M M1 o := fun j hj => by
  have q := List.all_eq_true.mp h j (by simpa using hj)
  exact rv_c I J to (by simpa using q)
theorem sA.rf : sA L M M o := fun _ _ => rfl
theorem sF.rf : sF L M M o := fun _ _ => rfl
end SA
/-- the arrays of rows as before but at r -/
def rK (M0 M : mj_M) (o r : Nat) : Prop := ∀ k, [7, 8, 10, 11, 12].contains k = true → ∀ i, i ≠ r → ra M o k i = ra M0 o k i
/-- one array as before but at r -/
def rK1 (k : Nat) (M0 M : mj_M) (o r : Nat) : Prop := ∀ i, i ≠ r → ra M o k i = ra M0 o k i
def rO (M0 M : mj_M) (o : Nat) : Prop := (∀ i : Nat, i < 18480 → ra M o 4 i = ra M0 o 4 i) ∧ ∀ k, [7, 8, 10, 11, 12].contains k = true → ∀ i, i < 880 → ra M o k i = ra M0 o k i
/-- a row of the text that is being read -/
def rowN (M : mj_M) (o r : Nat) : Prop := ra M o 10 r ≤ ra M o 11 r ∧ ra M o 11 r ≤ ra M o 12 r ∧ ra M o 12 r ≤ ra M o 5 44 ∧ 0 ≤ dq (sN M o) (ra M o 10 r) (ra M o 11 r) 0 ∧ 0 ≤ dq (sN M o) (ra M o 11 r) (ra M o 12 r) 0
/-- how many of n rows from b on are ends -/
def kc (M : mj_M) (o b : Nat) : Nat → Int
  | 0 => 0
  | n + 1 => kc M o b n + (if ra M o 7 (b + n) = 8 then 1 else 0)
/-- the names of the ends read so far lie in the text -/
def nN (M : mj_M) (o : Nat) : Prop := ∀ i : Nat, (i : Int) < rv M o 24 → ra M o 25 i + ra M o 26 i ≤ 400
def rG (M : mj_M) (o : Nat) : Prop := (∀ k : Nat, (k : Int) < ra M o 6 44 → 0 ≤ ra M o 8 (880 + k) ∧ (ra M o 7 (880 + k) = 8 ∨ ra M o 7 (880 + k) = 6 → rowN M o (880 + k))) ∧ kc M o 880 (ra M o 6 44).toNat ≤ rv M o 24 ∧ nN M o
def rW (M : mj_M) (o : Nat) : Prop := rT M o ∧ (rv M o 19 = 0 → ra M o 5 44 ≤ rv M o 16 ∧ rG M o)
section RW
variable {M0 M M1 Mm : mj_M} {o r : Nat} {z c z1 c1 : Int}
theorem rK.rf : rK M M o r := fun _ _ _ _ => rfl
theorem rK.same (h : rK M0 M o r) (a : sA [7, 8, 10, 11, 12] M M1 o) : rK M0 M1 o r := fun k hk i hi => by rw [a k hk]; exact h k hk i hi
theorem rK.st {k n : Nat} {v : Int} (h : rK M0 M o r) (A : ∀ j, j ≠ k → rgK j = true → ∀ i, ra M1 o j i = ra M o j i) (e : ∀ j, ra M1 o k j = if j = n then v else ra M o k j) (hn : n = r) : rK M0 M1 o r := fun j hj i hi => by
  by_cases hjk : j = k
  · subst hjk
    rw [e, if_neg (by omega)]
    exact h j hj i hi
  · rw [A j hjk (by simp only [List.contains_cons, List.contains_nil, Bool.or_false, Bool.or_eq_true, beq_iff_eq] at hj; rcases hj with rfl | rfl | rfl | rfl | rfl <;> rfl) i]
    exact h j hj i hi
theorem rK.one8 (h : rK M0 M o r) (a : sA [7, 10, 11, 12] M M1 o) (b : rK1 8 M M1 o r) : rK M0 M1 o r := fun k hk i hi => by
  by_cases h8 : k = 8
  · subst h8
    rw [b i hi]
    exact h 8 hk i hi
  · rw [a k (by simp only [List.contains_cons, List.contains_nil, Bool.or_false, Bool.or_eq_true, beq_iff_eq] at hk ⊢; omega)]
    exact h k hk i hi
theorem rK1.rf {k : Nat} : rK1 k M M o r := fun _ _ => rfl
theorem rK1.same {k : Nat} (h : rK1 k M0 M o r) (a : ra M1 o k = ra M o k) : rK1 k M0 M1 o r := fun i hi => by rw [a]; exact h i hi
theorem rK1.st {k n : Nat} {v : Int} (h : rK1 k M0 M o r) (e : ∀ j, ra M1 o k j = if j = n then v else ra M o k j) (hn : n = r) : rK1 k M0 M1 o r := fun i hi => by
  rw [e, if_neg (by omega)]
  exact h i hi
theorem nN.same (h : nN M o) (a : sA [25, 26] M M1 o) (f : sF [24] M M1 o) : nN M1 o := by
  unfold nN
  rw [a 25 rfl, a 26 rfl, f 24 rfl]
  exact h
theorem nN.st {k n : Nat} {v : Int} (h : nN M o) (A : ∀ j, j ≠ k → rgK j = true → ∀ i, ra M1 o j i = ra M o j i) (e : ∀ j, ra M1 o k j = if j = n then v else ra M o k j) (V : ∀ j, rv M1 o j = rv M o j) (hk : k = 25 ∨ k = 26) (hn : rv M o 24 ≤ (n : Int)) : nN M1 o := fun i hi => by
  rw [V] at hi
  have := h i hi
  rcases hk with rfl | rfl
  · rw [e, if_neg (by omega), A 26 (by decide) rfl]
    exact this
  · rw [e, if_neg (by omega), A 25 (by decide) rfl]
    exact this
theorem nN.inc {n : Nat} (h : nN M o) (a : ∀ j, j ≠ 24 → ∀ i, ra M1 o j i = ra M o j i) (hv : rv M1 o 24 = rv M o 24 + 1) (hn : (n : Int) = rv M o 24) (h9 : ra M o 25 n + ra M o 26 n ≤ 400) : nN M1 o := fun i hi => by
  rw [a 25 (by decide), a 26 (by decide)]
  by_cases e : i = n
  · subst e
    exact h9
  · exact h i (by omega)
theorem rowN.keep {k : Nat} (h : rowN M0 o k) (E : rE M0 M o z c) (w : rv M o 19 = 0) (h0 : 0 ≤ ra M0 o 10 k) (e1 : ra M o 10 k = ra M0 o 10 k) (e2 : ra M o 11 k = ra M0 o 11 k) (e3 : ra M o 12 k = ra M0 o 12 k) : rowN M o k := by
  obtain ⟨a1, a2, a3, a4, a5⟩ := h
  obtain ⟨-, b2, -, b4, -⟩ := E.2.2.2 w
  unfold rowN
  rw [e1, e2, e3, dq_congr (f := sN M o) (g := sN M0 o) h0 (fun i h1 h2 => b4 i (by omega)), dq_congr (f := sN M o) (g := sN M0 o) (show 0 ≤ ra M0 o 11 k by omega) (fun i h1 h2 => b4 i (by omega))]
  exact ⟨a1, a2, by omega, a4, a5⟩
theorem kc_congr {b : Nat} : ∀ n : Nat, (∀ i : Nat, i < n → ra M o 7 (b + i) = ra M0 o 7 (b + i)) → kc M o b n = kc M0 o b n
  | 0, _ => rfl
  | n + 1, h => by
    show kc M o b n + _ = kc M0 o b n + _
    rw [kc_congr n (fun i hi => h i (by omega)), h n (by omega)]
/-- one row more -/
theorem rG.step (G : rG M0 o) (R0 : rI M0 o) (E : rE M0 M o z c) (w : rv M o 19 = 0) (K : rK M0 M o r) (hr : (r : Int) = 880 + ra M0 o 6 44) (hm : ra M o 6 44 = ra M0 o 6 44 + 1) (h8 : 0 ≤ ra M o 8 r) (hrow : ra M o 7 r = 8 ∨ ra M o 7 r = 6 → rowN M o r) (hk : ra M o 7 r = 8 → rv M o 24 = rv M0 o 24 + 1) (hk2 : rv M0 o 24 ≤ rv M o 24) (N : nN M o) : rG M o := by
  have hm0 := (R0.2 6 _ _ rfl 44).1
  obtain ⟨g1, g2, g3⟩ := G
  refine ⟨fun k hk9 => ?_, ?_, N⟩
  · by_cases e : 880 + k = r
    · rw [e]
      exact ⟨h8, hrow⟩
    · obtain ⟨q1, q2⟩ := g1 k (by omega)
      rw [K 8 rfl _ e, K 7 rfl _ e]
      exact ⟨q1, fun h => (q2 h).keep E w (R0.2 10 _ _ rfl _).1 (K 10 rfl _ e) (K 11 rfl _ e) (K 12 rfl _ e)⟩
  · rw [hm, show (ra M0 o 6 44 + 1).toNat = (ra M0 o 6 44).toNat + 1 from by omega]
    show kc M o 880 (ra M0 o 6 44).toNat + (if ra M o 7 (880 + (ra M0 o 6 44).toNat) = 8 then 1 else 0) ≤ _
    rw [kc_congr (M0 := M0) _ (fun i hi => K 7 rfl _ (by omega)), show 880 + (ra M0 o 6 44).toNat = r from by omega]
    split
    · rename_i h
      have := hk h
      omega
    · omega
theorem rO.of (E : rE M0 M o z c) (K : rK M0 M o r) (hr : 880 ≤ r) : rO M0 M o := ⟨E.2.2.1, fun k hk i hi => K k hk i (by omega)⟩
theorem rO.rf : rO M M o := ⟨fun _ _ => rfl, fun _ _ _ _ => rfl⟩
theorem rO.trans (h : rO M0 M o) (h1 : rO M M1 o) : rO M0 M1 o := ⟨fun i hi => (h1.1 i hi).trans (h.1 i hi), fun k hk i hi => (h1.2 k hk i hi).trans (h.2 k hk i hi)⟩
theorem rO.same (h : rO M0 M o) (a : sA [4, 7, 8, 10, 11, 12] M M1 o) : rO M0 M1 o := ⟨fun i hi => by rw [a 4 rfl]; exact h.1 i hi, fun k hk i hi => by
  rw [a k (by simp only [List.contains_cons, List.contains_nil, Bool.or_false, Bool.or_eq_true, beq_iff_eq] at hk ⊢; omega)]
  exact h.2 k hk i hi⟩
/-- a row whose sum and condition were read -/
theorem rowN.of (E : rE M0 Mm o z c) (F : rE Mm M o z1 c1) (w : rv M o 19 = 0) (hz : 0 ≤ z) (hz1 : 0 ≤ z1) (hs : 0 ≤ ra M0 o 5 44) (h10 : ra M o 10 r = ra M0 o 5 44) (h11 : ra M o 11 r = ra Mm o 5 44) (h12 : ra M o 12 r = ra M o 5 44) : rowN M o r := by
  obtain ⟨b1, b2, -, b4, b5⟩ := F.2.2.2 w
  obtain ⟨-, a2, -, -, a5⟩ := E.2.2.2 b1
  unfold rowN
  rw [h10, h11, h12, dq_congr (f := sN M o) (g := sN Mm o) hs (fun i h1 h2 => b4 i h2), a5 0 (by decide), b5 0 (by decide)]
  omega
end RW
/-- the signs of text t -/
def sT (M : mj_M) (o t i : Nat) : Int := ra M o 4 (420 * t + i)
def rowT (M : mj_M) (o t r : Nat) : Prop := ra M o 10 r ≤ ra M o 11 r ∧ ra M o 11 r ≤ ra M o 12 r ∧ 0 ≤ dq (sT M o t) (ra M o 10 r) (ra M o 11 r) 0 ∧ 0 ≤ dq (sT M o t) (ra M o 11 r) (ra M o 12 r) 0
/-- text t isn't told yet -/
def rU (M : mj_M) (o t : Nat) : Prop := (t < 20 ∧ rv M o 27 ≤ t) ∨ (20 ≤ t ∧ t < 32 ∧ 20 + rv M o 32 ≤ t) ∨ (32 ≤ t ∧ 32 + rv M o 49 ≤ t)
/-- the texts that were told: each row's signs keep the heap's height; those that weren't (but x) have no rows; the ends' rows -/
def rC (M : mj_M) (o x : Nat) : Prop :=
  (∀ t k : Nat, t < 44 → k < 20 → (ra M o 7 (20 * t + k) = 8 ∨ ra M o 7 (20 * t + k) = 6) → rowT M o t (20 * t + k)) ∧
  (∀ t k : Nat, t < 44 → k < 20 → t ≠ x → rU M o t → ra M o 7 (20 * t + k) = 0) ∧
  (∀ i : Nat, i < 880 → 0 ≤ ra M o 8 i) ∧
  (∀ n : Nat, n < 12 → (n : Int) < rv M o 49 → ra M o 7 (640 + 20 * n) = 8) ∧
  (∀ f e : Nat, f < 12 → (e : Int) < ra M o 43 f → ∃ j : Nat, j < 20 ∧ ra M o 45 (80 * f + e) = 20 * ra M o 44 (80 * f + e) + j ∧ ra M o 7 (ra M o 45 (80 * f + e)).toNat = 8)
/-- n of array a's elements from bs copied to bd -/
def rcp (M0 M : mj_M) (o a bs bd : Nat) (n : Int) : Prop := (∀ i : Nat, (i : Int) < n → ra M o a (bd + i) = ra M0 o a (bs + i)) ∧ ∀ j : Nat, (j < bd ∨ (bd : Int) + n ≤ j) → ra M o a j = ra M0 o a j
/-- an end more -/
def rAd (M0 M : mj_M) (o f : Nat) (t r : Int) : Prop := (∀ i : Nat, ra M o 44 i = if (i : Int) = 80 * f + ra M0 o 43 f then t else ra M0 o 44 i) ∧ (∀ i : Nat, ra M o 45 i = if (i : Int) = 80 * f + ra M0 o 43 f then r else ra M0 o 45 i) ∧ ∀ i : Nat, ra M o 43 i = if i = f then ra M0 o 43 f + 1 else ra M0 o 43 i
section RC
variable {M0 M M1 : mj_M} {o x t : Nat} {z c : Int}
theorem rcp.rf {a bs bd : Nat} : rcp M M o a bs bd 0 := ⟨fun i hi => by omega, fun _ _ => rfl⟩
theorem rcp.same {a bs bd : Nat} {n : Int} (h : rcp M0 M o a bs bd n) (e : ra M1 o a = ra M o a) : rcp M0 M1 o a bs bd n := by
  unfold rcp
  rw [e]
  exact h
theorem rcp.st {a bs bd q p : Nat} {n v n1 : Int} (h : rcp M0 M o a bs bd n) (e : ∀ j, ra M1 o a j = if j = q then v else ra M o a j) (hn : 0 ≤ n) (hq : (q : Int) = bd + n) (hv : v = ra M o a p) (hp : (p : Int) = bs + n) (hfar : (bd : Int) + n ≤ bs) (h1 : n1 = n + 1) : rcp M0 M1 o a bs bd n1 := by
  subst h1
  obtain ⟨h1, h2⟩ := h
  refine ⟨fun i hi => ?_, fun j hj => ?_⟩
  · rw [e]
    by_cases hi9 : (i : Int) = n
    · rw [if_pos (by omega), hv, h2 p (Or.inr (by omega)), show p = bs + i from by omega]
    · rw [if_neg (by omega)]
      exact h1 i (by omega)
  · rw [e, if_neg (by omega)]
    exact h2 j (by omega)
theorem rC.same (h : rC M o x) (a : sA [4, 7, 8, 10, 11, 12, 43, 44, 45] M M1 o) (f : sF [27, 32, 49] M M1 o) : rC M1 o x := by
  unfold rC rowT sT rU at *
  rw [a 4 rfl, a 7 rfl, a 8 rfl, a 10 rfl, a 11 rfl, a 12 rfl, a 43 rfl, a 44 rfl, a 45 rfl, f 27 rfl, f 32 rfl, f 49 rfl]
  exact h
theorem rowT.mv {t r r1 : Nat} {f : Nat → Int} (h0 : 0 ≤ ra M0 o 10 r1) (e1 : ra M o 10 r = ra M0 o 10 r1) (e2 : ra M o 11 r = ra M0 o 11 r1) (e3 : ra M o 12 r = ra M0 o 12 r1) (hs : ∀ i : Nat, (i : Int) < ra M0 o 12 r1 → sT M o t i = f i) (h1 : ra M0 o 10 r1 ≤ ra M0 o 11 r1) (h2 : ra M0 o 11 r1 ≤ ra M0 o 12 r1) (h3 : 0 ≤ dq f (ra M0 o 10 r1) (ra M0 o 11 r1) 0) (h4 : 0 ≤ dq f (ra M0 o 11 r1) (ra M0 o 12 r1) 0) : rowT M o t r := by
  unfold rowT
  rw [e1, e2, e3, dq_congr (f := sT M o t) (g := f) h0 (fun i _ h => hs i (by omega)), dq_congr (f := sT M o t) (g := f) (show 0 ≤ ra M0 o 11 r1 by omega) (fun i _ h => hs i h)]
  exact ⟨h1, h2, h3, h4⟩
theorem rC.rO (C : rC M0 o x) (R0 : rI M0 o) (h : rO M0 M o) (a : sA [43, 44, 45] M0 M o) (f : sF [27, 32, 49] M0 M o) : rC M o x := by
  obtain ⟨c1, c2, c3, c4, c5⟩ := C
  obtain ⟨h1, h2⟩ := h
  have r12 : ∀ i, ra M0 o 12 i ≤ 400 := fun i => (R0.2 12 _ _ rfl i).2
  refine ⟨fun t k ht hk hq => ?_, fun t k ht hk hx hu => ?_, fun i hi => ?_, fun n hn hn2 => ?_, fun g e hg he => ?_⟩
  · rw [h2 7 rfl _ (by omega)] at hq
    obtain ⟨q1, q2, q3, q4⟩ := c1 t k ht hk hq
    exact rowT.mv (M0 := M0) (r1 := 20 * t + k) (R0.2 10 _ _ rfl _).1 (h2 10 rfl _ (by omega)) (h2 11 rfl _ (by omega)) (h2 12 rfl _ (by omega)) (fun i hi => h1 _ (by have := r12 (20 * t + k); omega)) q1 q2 q3 q4
  · rw [h2 7 rfl _ (by omega)]
    refine c2 t k ht hk hx ?_
    unfold rU at hu ⊢
    rw [f 27 rfl, f 32 rfl, f 49 rfl] at hu
    exact hu
  · rw [h2 8 rfl _ hi]
    exact c3 i hi
  · rw [h2 7 rfl _ (by omega)]
    rw [f 49 rfl] at hn2
    exact c4 n hn hn2
  · rw [a 43 rfl] at he
    obtain ⟨j, j1, j2, j3⟩ := c5 g e hg he
    have q9 := R0.2 44 _ _ rfl (80 * g + e)
    rw [a 44 rfl, a 45 rfl, h2 7 rfl _ (by omega)]
    exact ⟨j, j1, j2, j3⟩
theorem rC.stops (C : rC M0 o 44) (R0 : rI M0 o) (Wd : rW M0 o) (w : rv M0 o 19 = 0) (ht : t < 44) (hU : rU M0 o t) (q4 : rcp M0 M o 4 18480 (420 * t) (ra M0 o 5 44)) (q7 : rcp M0 M o 7 880 (20 * t) (ra M0 o 6 44)) (q8 : rcp M0 M o 8 880 (20 * t) (ra M0 o 6 44)) (q10 : rcp M0 M o 10 880 (20 * t) (ra M0 o 6 44)) (q11 : rcp M0 M o 11 880 (20 * t) (ra M0 o 6 44)) (q12 : rcp M0 M o 12 880 (20 * t) (ra M0 o 6 44)) (a : sA [43, 44, 45] M0 M o) (f : sF [27, 32, 49] M0 M o) : rC M o t := by
  obtain ⟨c1, c2, c3, c4, c5⟩ := C
  have r12 : ∀ i, ra M0 o 12 i ≤ 400 := fun i => (R0.2 12 _ _ rfl i).2
  have r10 : ∀ i, 0 ≤ ra M0 o 10 i := fun i => (R0.2 10 _ _ rfl i).1
  have hs := R0.2 5 _ _ rfl 44
  have hm := R0.2 6 _ _ rfl 44
  obtain ⟨-, Wd⟩ := Wd
  obtain ⟨-, g1, -, -⟩ := Wd w
  have z7 : ∀ k, k < 20 → ra M0 o 7 (20 * t + k) = 0 := fun k hk => c2 t k ht hk (by omega) hU
  refine ⟨fun t1 k ht1 hk hq => ?_, fun t1 k ht1 hk hx hu => ?_, fun i hi => ?_, fun n hn hn2 => ?_, fun g e hg he => ?_⟩
  · by_cases e : t1 = t
    · subst e
      by_cases hkm : (k : Int) < ra M0 o 6 44
      · rw [q7.1 k hkm] at hq
        obtain ⟨u1, u2, u3, u4, u5⟩ := (g1 k hkm).2 hq
        exact rowT.mv (M0 := M0) (r1 := 880 + k) (f := sN M0 o) (r10 _) (q10.1 k hkm) (q11.1 k hkm) (q12.1 k hkm) (fun i hi => q4.1 i (by omega)) u1 u2 u4 u5
      · rw [q7.2 _ (Or.inr (by omega)), z7 k hk] at hq
        omega
    · have far : (20 * t1 + k < 20 * t ∨ ((20 * t : Nat) : Int) + ra M0 o 6 44 ≤ (20 * t1 + k : Nat)) := by omega
      rw [q7.2 _ far] at hq
      obtain ⟨u1, u2, u3, u4⟩ := c1 t1 k ht1 hk hq
      exact rowT.mv (M0 := M0) (r1 := 20 * t1 + k) (r10 _) (q10.2 _ far) (q11.2 _ far) (q12.2 _ far) (fun i hi => q4.2 _ (by have := r12 (20 * t1 + k); omega)) u1 u2 u3 u4
  · rw [q7.2 _ (by omega)]
    refine c2 t1 k ht1 hk (by omega) ?_
    unfold rU at hu ⊢
    rw [f 27 rfl, f 32 rfl, f 49 rfl] at hu
    exact hu
  · by_cases e : 20 * t ≤ i ∧ (i : Int) < (20 * t : Nat) + ra M0 o 6 44
    · obtain ⟨e1, e2⟩ := e
      have := (q8.1 (i - 20 * t) (by omega))
      rw [show 20 * t + (i - 20 * t) = i from by omega] at this
      rw [this]
      exact (g1 (i - 20 * t) (by omega)).1
    · rw [q8.2 i (by omega)]
      exact c3 i hi
  · rw [f 49 rfl] at hn2
    have := c4 n hn hn2
    rw [q7.2 _ (by unfold rU at hU; omega)]
    exact this
  · rw [a 43 rfl] at he
    obtain ⟨j, j1, j2, j3⟩ := c5 g e hg he
    have q9 := R0.2 44 _ _ rfl (80 * g + e)
    rw [a 44 rfl, a 45 rfl]
    refine ⟨j, j1, j2, ?_⟩
    rw [q7.2 _ ?_]
    · exact j3
    · by_cases e9 : 20 * t ≤ (ra M0 o 45 (80 * g + e)).toNat ∧ (ra M0 o 45 (80 * g + e)).toNat < 20 * t + 20
      · have := z7 ((ra M0 o 45 (80 * g + e)).toNat - 20 * t) (by omega)
        rw [show 20 * t + ((ra M0 o 45 (80 * g + e)).toNat - 20 * t) = (ra M0 o 45 (80 * g + e)).toNat from by omega] at this
        omega
      · omega
/-- an act, a fund, a near end more -/
theorem rC.more (C : rC M o t) (a : sA [4, 7, 8, 10, 11, 12, 43, 44, 45] M M1 o) (hu : ∀ t1, rU M1 o t1 → t1 ≠ t ∧ rU M o t1) (h49 : rv M o 49 ≤ rv M1 o 49) (hn : rv M o 49 < rv M1 o 49 → (t : Int) = 32 + rv M o 49 ∧ rv M1 o 49 = rv M o 49 + 1 ∧ ra M o 7 (20 * t) = 8) : rC M1 o 44 := by
  obtain ⟨c1, c2, c3, c4, c5⟩ := C
  unfold rC rowT sT at *
  rw [a 4 rfl, a 7 rfl, a 8 rfl, a 10 rfl, a 11 rfl, a 12 rfl, a 43 rfl, a 44 rfl, a 45 rfl]
  refine ⟨c1, fun t1 k ht hk _ hu1 => ?_, c3, fun n h1 h2 => ?_, c5⟩
  · obtain ⟨u1, u2⟩ := hu t1 hu1
    exact c2 t1 k ht hk u1 u2
  · by_cases e : (n : Int) < rv M o 49
    · exact c4 n h1 e
    · obtain ⟨v1, v2, v3⟩ := hn (by omega)
      rw [show 640 + 20 * n = 20 * t from by omega]
      exact v3
theorem rC.add {f : Nat} {t1 r : Int} (C : rC M0 o x) (R0 : rI M0 o) (A : rAd M0 M o f t1 r) (hf : f < 12) (j : Nat) (hj : j < 20) (hr : r = 20 * t1 + j) (h8 : ra M0 o 7 r.toNat = 8) (a : sA [4, 7, 8, 10, 11, 12] M0 M o) (g : sF [27, 32, 49] M0 M o) : rC M o x := by
  obtain ⟨c1, c2, c3, c4, c5⟩ := C
  obtain ⟨a44, a45, a43⟩ := A
  have r43 : ∀ i, 0 ≤ ra M0 o 43 i ∧ ra M0 o 43 i ≤ 72 := fun i => R0.2 43 _ _ rfl i
  unfold rC rowT sT rU at *
  rw [a 4 rfl, a 7 rfl, a 8 rfl, a 10 rfl, a 11 rfl, a 12 rfl, g 27 rfl, g 32 rfl, g 49 rfl]
  refine ⟨c1, c2, c3, c4, fun f1 e hf1 he => ?_⟩
  have q1 := r43 f1
  have q2 := r43 f
  rw [a43] at he
  rw [a44, a45]
  by_cases h : ((80 * f1 + e : Nat) : Int) = 80 * f + ra M0 o 43 f
  · rw [if_pos h, if_pos h]
    exact ⟨j, hj, hr, h8⟩
  · rw [if_neg h, if_neg h]
    refine c5 f1 e hf1 ?_
    by_cases h9 : f1 = f
    · subst h9
      rw [if_pos rfl] at he
      omega
    · rw [if_neg h9] at he
      exact he
/-- an end's text and row are told anew -/
theorem rC.end9 {f q : Nat} {t1 r : Int} (C : rC M0 o x) (e4 : ∀ i, ra M o 44 i = if i = q then t1 else ra M0 o 44 i) (e5 : ∀ i, ra M o 45 i = if i = q then r else ra M0 o 45 i) (j : Nat) (hj : j < 20) (hr : r = 20 * t1 + j) (h8 : ra M0 o 7 r.toNat = 8) (a : sA [4, 7, 8, 10, 11, 12, 43] M0 M o) (g : sF [27, 32, 49] M0 M o) : rC M o x := by
  obtain ⟨c1, c2, c3, c4, c5⟩ := C
  unfold rC rowT sT rU at *
  rw [a 4 rfl, a 7 rfl, a 8 rfl, a 10 rfl, a 11 rfl, a 12 rfl, a 43 rfl, g 27 rfl, g 32 rfl, g 49 rfl]
  refine ⟨c1, c2, c3, c4, fun f1 e hf1 he => ?_⟩
  rw [e4, e5]
  by_cases h : 80 * f1 + e = q
  · rw [if_pos h, if_pos h]
    exact ⟨j, hj, hr, h8⟩
  · rw [if_neg h, if_neg h]
    exact c5 f1 e hf1 he
/-- what an end's signs are worked out by -/
theorem rC.end {f e : Nat} (C : rC M o x) (R : rI M o) (hf : f < 12) (he : (e : Int) < ra M o 43 f) : rowT M o (ra M o 44 (80 * f + e)).toNat (ra M o 45 (80 * f + e)).toNat := by
  obtain ⟨c1, -, -, -, c5⟩ := C
  obtain ⟨j, j1, j2, j3⟩ := c5 f e hf he
  have q9 := R.2 44 _ _ rfl (80 * f + e)
  have e1 : (ra M o 45 (80 * f + e)).toNat = 20 * (ra M o 44 (80 * f + e)).toNat + j := by omega
  rw [e1] at j3 ⊢
  exact c1 _ j (by omega) j1 (Or.inl j3)
end RC
