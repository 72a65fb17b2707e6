/-! THE LAW'S INVARIANT: what holds at the head of its loop -/
theorem lx_upd {w : Nat → Int} {i : Nat} {v : Int} : ∀ n, sm (fun q => if q = i then v else w q) 0 n = sm w 0 n + (if i < n then v - w i else 0)
  | 0 => by
    rw [if_neg (Nat.not_lt_zero i)]
    rfl
  | n + 1 => by
    show sm (fun q => if q = i then v else w q) 0 n + (if 0 + n = i then v else w (0 + n)) = sm w 0 n + w (0 + n) + _
    rw [lx_upd n, Nat.zero_add]
    by_cases h : n = i
    · subst h
      rw [if_pos rfl, if_neg (Nat.lt_irrefl n), if_pos (Nat.lt_succ_self n)]
      omega
    · rw [if_neg h]
      by_cases h2 : i < n
      · rw [if_pos h2, if_pos (by omega)]
        omega
      · rw [if_neg h2, if_neg (by omega)]
        omega
theorem lx_nn {w : Nat → Int} : ∀ n, (∀ q, q < n → 0 ≤ w q) → 0 ≤ sm w 0 n
  | 0, _ => Int.le_refl 0
  | n + 1, h => by
    have h1 := lx_nn n (fun q hq => h q (by omega))
    have h2 := h (0 + n) (by omega)
    show 0 ≤ sm w 0 n + w (0 + n)
    omega
theorem lx_pair {w : Nat → Int} {i j n : Nat} (hij : i ≠ j) (hi : i < n) (hj : j < n) (h : ∀ q, q < n → 0 ≤ w q) : w i + w j ≤ sm w 0 n := by
  have h1 := lx_upd (w := w) (i := i) (v := 0) n
  have h2 := lx_upd (w := fun q => if q = i then 0 else w q) (i := j) (v := 0) n
  rw [if_pos hi] at h1
  rw [if_pos hj, if_neg (Ne.symm hij)] at h2
  have h3 : 0 ≤ sm (fun q => if q = j then 0 else if q = i then 0 else w q) 0 n := lx_nn n fun q hq => by
    by_cases e : q = j
    · rw [if_pos e]
      exact Int.le_refl 0
    · rw [if_neg e]
      by_cases e2 : q = i
      · rw [if_pos e2]
        exact Int.le_refl 0
      · rw [if_neg e2]
        exact h q hq
  omega
theorem tm_at.fnR {M : mj_M} {a c k b b1 : Nat} (h : tm_at M a c k (.ref b)) (h1 : tm_at M a c k (.ref b1)) : b = b1 := by
  obtain ⟨fs, e1, e2⟩ := h
  obtain ⟨fs1, e3, e4⟩ := h1
  cases e1.symm.trans e3
  cases e2.symm.trans e4
  rfl
/-- behind a founding: what part 18 says, and that the new fund is new -/
def tm_FS (T0 : tm_H) (M0 : mj_M) (n0 : Nat) (T : tm_H) (M : mj_M) (L : Nat) : Prop := (∀ (a o : Nat) (w : Value), T0 a = some (3, 3, o) → o < n0 → tm_at M0 a 0 2 w → tm_at M a 0 2 w) ∧ (∀ (a : Nat) (w : Value), T0 a = some (0, 6, 0) → tm_at M0 a 6 8 w → tm_at M a 6 8 w) ∧ (∀ (i b : Nat), tm_ge M0 L i b → tm_ge M L i b) ∧
  ((∀ (w : Value), tm_at M0 L 0 2 w → tm_at M L 0 2 w) ∨ ∃ (b e : Nat) (n s v : Int32), tm_at M0 L 0 2 (.int n) ∧ tm_at M L 0 2 (.int (n + 1)) ∧ tm_ge M L n.toNatClampNeg b ∧ tm_at M b 6 0 (.int v) ∧ 0 ≤ v.toInt ∧ tm_at M b 6 11 (.ref e) ∧ T e = some (3, 3, b) ∧ tm_at M e 0 2 (.int s) ∧ s.toInt ≤ 6 ∧ n0 ≤ b)
/-- the desk's funds: a list of funds, each once; those that aren't joined have together at most six ends a fund -/
def lx_D (T : tm_H) (M : mj_M) (Lf : Nat) : Prop := ∃ (k : Int32) (b e : Nat → Nat) (z jt nu : Nat → Int32), tm_at M Lf 0 2 (.int k) ∧ (∀ i : Nat, (i : Int) < k.toInt → tm_ge M Lf i (b i) ∧ T (b i) = some (0, 6, 0) ∧ T (e i) = some (3, 3, b i) ∧ tm_at M (b i) 6 0 (.int (nu i)) ∧ 0 ≤ (nu i).toInt ∧ tm_at M (b i) 6 8 (.int (jt i)) ∧ tm_at M (b i) 6 11 (.ref (e i)) ∧ tm_at M (e i) 0 2 (.int (z i)) ∧ 0 ≤ (z i).toInt) ∧ (∀ i j : Nat, (i : Int) < k.toInt → (j : Int) < k.toInt → b i = b j → i = j) ∧ sm (fun i => if jt i = -1 then (z i).toInt else 0) 0 k.toInt.toNat ≤ 6 * k.toInt
section LD
variable {FT : Nat → List tm_F} {W W1 : Nat → Bool} {x x1 n0 n n1 Lf o : Nat} {T0 T T1 : tm_H} {M0 M M1 : mj_M}
theorem lx_D.keep (hW0 : tm_W tm_FT T M) (hLf : T Lf = some (3, 6, o)) (J : tm_I tm_FT W x T M n T1 M1 n1) (w1 : W 600 = false) (w2 : W 608 = false) (w3 : W 611 = false) (w4 : W 5003 = false) (w5 : W 5006 = false) (h : lx_D T M Lf) : lx_D T1 M1 Lf := by
  obtain ⟨k, b, e, z, jt, nu, h1, h2, h3, h4⟩ := h
  refine ⟨k, b, e, z, jt, nu, J.keepL hLf w5 h1, fun i hi => ?_, h3, h4⟩
  obtain ⟨g1, g2, g3, g4, g5, g6, g7, g8, g9⟩ := h2 i hi
  exact ⟨tm_I.keepG hW0 J hLf w5 g1, J.up g2, J.up g3, J.keep g2 w1 g4, g5, J.keep g2 w2 g6, J.keep g2 w3 g7, J.keepL g3 w4 g8, g9⟩
theorem lx_D.D (I : tm_I tm_FT W x T0 M0 n0 T M n) (hLf : T Lf = some (3, 6, o)) (h : lx_D T M Lf) : tm_D M Lf ∧ ∀ i b, tm_ge M Lf i b → ∃ v : Int32, tm_at M b 6 0 (.int v) ∧ 0 ≤ v.toInt := by
  obtain ⟨k, b, e, z, jt, nu, h1, h2, h3, h4⟩ := h
  obtain ⟨m, e9, N, f, hls⟩ := tm_lsn I hLf h1
  have hk : k.toInt ≤ 12 := hls.2.2.1
  have lt : ∀ i b1, tm_ge M Lf i b1 → (i : Int) < k.toInt := fun i b1 hg => (tm_ge.el hls hg).1
  refine ⟨fun i j bi bj ei ej si sj hij gi gj ji jj qi qj zi zj => ?_, fun i b1 hg => ?_⟩
  · have li := lt i bi gi
    have lj := lt j bj gj
    obtain ⟨a1, a2, a3, a4, a5, a6, a7, a8, a9⟩ := h2 i li
    obtain ⟨c1, c2, c3, c4, c5, c6, c7, c8, c9⟩ := h2 j lj
    obtain rfl := tm_ge.fn gi a1
    obtain rfl := tm_ge.fn gj c1
    have e1 := tm_at.fnI ji a6
    have e2 := tm_at.fnI jj c6
    obtain rfl := tm_at.fnR qi a7
    obtain rfl := tm_at.fnR qj c7
    obtain rfl := tm_at.fnI zi a8
    obtain rfl := tm_at.fnI zj c8
    have h5 := lx_pair (w := fun i => if jt i = -1 then (z i).toInt else 0) (n := k.toInt.toNat) hij (by omega) (by omega) (fun q hq => by
      show 0 ≤ if jt q = -1 then (z q).toInt else 0
      by_cases e9 : jt q = -1
      · rw [if_pos e9]
        exact (h2 q (by omega)).2.2.2.2.2.2.2.2
      · rw [if_neg e9]
        exact Int.le_refl 0)
    rw [if_pos e1.symm, if_pos e2.symm] at h5
    omega
  · obtain ⟨a1, a2, a3, a4, a5, -⟩ := h2 i (lt i b1 hg)
    obtain rfl := tm_ge.fn hg a1
    exact ⟨_, a4, a5⟩
theorem lx_D.settle (I : tm_I tm_FT W x T M n T M n) (hLf : T Lf = some (3, 6, o)) (J : tm_I tm_FT W1 x1 T M n T1 M1 n1) (w1 : W1 600 = false) (w3 : W1 611 = false) (w5 : W1 5006 = false) (R : tm_JR T M M1 Lf) (h : lx_D T M Lf) : lx_D T1 M1 Lf := by
  obtain ⟨k, b, e, z, jt, nu, h1, h2, h3, h4⟩ := h
  rcases R with ⟨KL, KJ⟩ | ⟨i, j, bi, bj, ei, ej, si, sj, s, v, hij, gi, gj, ji, jj, qi, qj, zi, zj, hv, hs, zs, jv, KL, KJ⟩
  · refine ⟨k, b, e, z, jt, nu, J.keepL hLf w5 h1, fun i hi => ?_, h3, h4⟩
    obtain ⟨g1, g2, g3, g4, g5, g6, g7, g8, g9⟩ := h2 i hi
    exact ⟨tm_I.keepG I.1 J hLf w5 g1, J.up g2, J.up g3, J.keep g2 w1 g4, g5, KJ _ _ g2 g6, J.keep g2 w3 g7, KL _ _ _ g3 g8, g9⟩
  · obtain ⟨m, e9, N, f, hls⟩ := tm_lsn I hLf h1
    have hk : k.toInt ≤ 12 := hls.2.2.1
    have li := (tm_ge.el hls gi).1
    have lj := (tm_ge.el hls gj).1
    obtain ⟨a1, a2, a3, a4, a5, a6, a7, a8, a9⟩ := h2 i li
    obtain ⟨c1, c2, c3, c4, c5, c6, c7, c8, c9⟩ := h2 j lj
    obtain rfl := tm_ge.fn gi a1
    obtain rfl := tm_ge.fn gj c1
    have e1 := tm_at.fnI ji a6
    have e2 := tm_at.fnI jj c6
    obtain rfl := tm_at.fnR qi a7
    obtain rfl := tm_at.fnR qj c7
    obtain rfl := tm_at.fnI zi a8
    obtain rfl := tm_at.fnI zj c8
    obtain ⟨m2, e92, N2, f2, hls2⟩ := tm_lsn J (J.up c3) zs
    have hs0 : 0 ≤ s.toInt := hls2.2.1
    refine ⟨k, b, e, fun q => if q = j then s else z q, fun q => if q = i then v else jt q, nu, J.keepL hLf w5 h1, fun q hq => ?_, h3, ?_⟩
    · obtain ⟨g1, g2, g3, g4, g5, g6, g7, g8, g9⟩ := h2 q hq
      refine ⟨tm_I.keepG I.1 J hLf w5 g1, J.up g2, J.up g3, J.keep g2 w1 g4, g5, ?_, J.keep g2 w3 g7, ?_, ?_⟩
      · show tm_at M1 (b q) 6 8 (.int (if q = i then v else jt q))
        by_cases e3 : q = i
        · subst e3
          rw [if_pos rfl]
          exact jv
        · rw [if_neg e3]
          exact KJ _ _ g2 (fun h9 => e3 (h3 q i hq li h9)) g6
      · show tm_at M1 (e q) 0 2 (.int (if q = j then s else z q))
        by_cases e3 : q = j
        · subst e3
          rw [if_pos rfl]
          exact zs
        · rw [if_neg e3]
          exact KL _ _ _ g3 (fun h9 => e3 (h3 q j hq lj h9)) g8
      · show 0 ≤ (if q = j then s else z q).toInt
        by_cases e3 : q = j
        · rw [if_pos e3]
          exact hs0
        · rw [if_neg e3]
          exact g9
    · have hf : (fun q => if (fun q => if q = i then v else jt q) q = -1 then ((fun q => if q = j then s else z q) q).toInt else 0) = fun q => if q = i then 0 else if q = j then s.toInt else if jt q = -1 then (z q).toInt else 0 := by
        funext q
        show (if (if q = i then v else jt q) = -1 then (if q = j then s else z q).toInt else 0) = if q = i then 0 else (if q = j then s.toInt else (if jt q = -1 then (z q).toInt else 0))
        by_cases e3 : q = i
        · rw [if_pos e3, if_pos e3, if_neg (fun h9 => by rw [h9] at hv; exact absurd hv (by decide))]
        · rw [if_neg e3, if_neg e3]
          by_cases e4 : q = j
          · subst e4
            rw [if_pos rfl, if_pos rfl, if_pos e2.symm]
          · rw [if_neg e4, if_neg e4]
      have u1 := lx_upd (w := fun q => if jt q = -1 then (z q).toInt else 0) (i := j) (v := s.toInt) k.toInt.toNat
      have u2 := lx_upd (w := fun q => if q = j then s.toInt else if jt q = -1 then (z q).toInt else 0) (i := i) (v := 0) k.toInt.toNat
      rw [if_pos (by omega), if_pos e2.symm] at u1
      rw [if_pos (by omega), if_neg hij, if_pos e1.symm] at u2
      rw [hf]
      omega
theorem lx_D.fund (I : tm_I tm_FT W x T M n T M n) (hLf : T Lf = some (3, 6, o)) (J : tm_I tm_FT W1 x1 T M n T1 M1 n1) (w1 : W1 600 = false) (w3 : W1 611 = false) (R : tm_FS T M n T1 M1 Lf) (h : lx_D T M Lf) : lx_D T1 M1 Lf := by
  obtain ⟨k, b, e, z, jt, nu, h1, h2, h3, h4⟩ := h
  obtain ⟨KL, KJ, KG, R⟩ := R
  have old : ∀ i : Nat, (i : Int) < k.toInt → tm_ge M1 Lf i (b i) ∧ T1 (b i) = some (0, 6, 0) ∧ T1 (e i) = some (3, 3, b i) ∧ tm_at M1 (b i) 6 0 (.int (nu i)) ∧ 0 ≤ (nu i).toInt ∧ tm_at M1 (b i) 6 8 (.int (jt i)) ∧ tm_at M1 (b i) 6 11 (.ref (e i)) ∧ tm_at M1 (e i) 0 2 (.int (z i)) ∧ 0 ≤ (z i).toInt := fun i hi => by
    obtain ⟨g1, g2, g3, g4, g5, g6, g7, g8, g9⟩ := h2 i hi
    exact ⟨KG _ _ g1, J.up g2, J.up g3, J.keep g2 w1 g4, g5, KJ _ _ g2 g6, J.keep g2 w3 g7, KL _ _ _ g3 (I.2.1 _ _ g2).2 g8, g9⟩
  rcases R with KS | ⟨b9, e9, n9, s9, v9, r1, r2, r3, r4, r5, r6, r7, r8, r9, r10⟩
  · exact ⟨k, b, e, z, jt, nu, KS _ h1, old, h3, h4⟩
  · obtain rfl := tm_at.fnI h1 r1
    obtain ⟨m, e8, N, f, hls⟩ := tm_lsn J (J.up hLf) r2
    have hk1 : (k + 1).toInt ≤ 12 := hls.2.2.1
    obtain ⟨m2, e82, N2, f2, hls2⟩ := tm_lsn I hLf h1
    have hk0 : 0 ≤ k.toInt := hls2.2.1
    have hk : k.toInt ≤ 12 := hls2.2.2.1
    have hkk : (k + 1).toInt = k.toInt + 1 := mz_addn 1 1 (by decide) (by omega) (by omega)
    have hK := mz_nat9 hk0
    obtain ⟨-, -, tb⟩ := tm_ge.el hls r3
    obtain ⟨j9, hj9⟩ := tm_atI (k := 8) J tb rfl
    obtain ⟨m3, e83, N3, f3, hls3⟩ := tm_lsn J r7 r8
    have hs0 : 0 ≤ s9.toInt := hls3.2.1
    refine ⟨k + 1, fun q => if q = k.toNatClampNeg then b9 else b q, fun q => if q = k.toNatClampNeg then e9 else e q, fun q => if q = k.toNatClampNeg then s9 else z q, fun q => if q = k.toNatClampNeg then j9 else jt q, fun q => if q = k.toNatClampNeg then v9 else nu q, r2, fun q hq => ?_, fun i j hi hj hb => ?_, ?_⟩
    · simp only
      by_cases e3 : q = k.toNatClampNeg
      · subst e3
        simp only [if_true]
        exact ⟨r3, tb, r7, r4, r5, hj9, r6, r8, hs0⟩
      · simp only [if_neg e3]
        exact old q (by omega)
    · simp only at hb
      by_cases e3 : i = k.toNatClampNeg
      · by_cases e4 : j = k.toNatClampNeg
        · omega
        · rw [if_pos e3, if_neg e4] at hb
          have := (I.2.1 _ _ (h2 j (by omega)).2.1).2
          omega
      · by_cases e4 : j = k.toNatClampNeg
        · rw [if_neg e3, if_pos e4] at hb
          have := (I.2.1 _ _ (h2 i (by omega)).2.1).2
          omega
        · rw [if_neg e3, if_neg e4] at hb
          exact h3 i j (by omega) (by omega) hb
    · have hn : (k + 1).toInt.toNat = k.toNatClampNeg + 1 := by omega
      have hn2 : k.toInt.toNat = k.toNatClampNeg := by omega
      rw [hn2] at h4
      rw [hn]
      show sm _ 0 k.toNatClampNeg + (if (if 0 + k.toNatClampNeg = k.toNatClampNeg then j9 else jt (0 + k.toNatClampNeg)) = -1 then (if 0 + k.toNatClampNeg = k.toNatClampNeg then s9 else z (0 + k.toNatClampNeg)).toInt else 0) ≤ 6 * (k + 1).toInt
      rw [sm_congr (h := fun i => if jt i = -1 then (z i).toInt else 0) k.toNatClampNeg (fun q hq => by
        show (if (if 0 + q = k.toNatClampNeg then j9 else jt (0 + q)) = -1 then (if 0 + q = k.toNatClampNeg then s9 else z (0 + q)).toInt else 0) = if jt (0 + q) = -1 then (z (0 + q)).toInt else 0
        rw [if_neg (show ¬ 0 + q = k.toNatClampNeg by omega), if_neg (show ¬ 0 + q = k.toNatClampNeg by omega)])]
      rw [if_pos (Nat.zero_add _), if_pos (Nat.zero_add _)]
      by_cases e3 : j9 = -1
      · rw [if_pos e3]
        omega
      · rw [if_neg e3]
        omega
end LD
def lx_I (T : tm_H) (M : mj_M) (n Lf : Nat) (t u : Int32) : Prop := tm_I tm_FT (fun _ => true) 0 T M n T M n ∧ T 64 = some (0, 12, 0) ∧ T 99 = some (0, 13, 0) ∧ T 148 = some (1, 240001, 1) ∧ T Lf = some (3, 6, 64) ∧ tm_at M 64 12 6 (.ref Lf) ∧ tm_at M 64 12 12 (.int t) ∧ tm_at M 99 13 1 (.int u) ∧ lx_D T M Lf ∧ rI M 99 ∧ rC M 99 44 ∧ rP M 99 ∧ rB M 99 12 ∧ rX M 99
/-- what a call of the desk doesn't write; what a simple one doesn't; what a call of the reference doesn't -/
def lx_b1 (k : Nat) : Bool := Nat.beq k 1206 || (Nat.ble 1300 k && Nat.ble k 1371) || (Nat.ble 20000 k && Nat.ble k 20071)
def lx_b2 (k : Nat) : Bool := lx_b1 k || Nat.beq k 600 || Nat.beq k 608 || Nat.beq k 611 || Nat.beq k 1212 || Nat.beq k 5003 || Nat.beq k 5006
def lx_b3 (k : Nat) : Bool := Nat.ble k 1299 || (Nat.ble 1372 k && Nat.ble k 19999) || Nat.ble 20072 k
theorem lx_ok {b : Nat → Bool} {L : List Nat} (h : L.all (fun k => !(b k)) = true) : ∀ k, b k = true → tm_in L k = false := by
  intro k hk
  cases h1 : tm_in L k with
  | false => rfl
  | true =>
    have h2 := List.all_eq_true.mp h k (by simpa [tm_in] using h1)
    rw [hk] at h2
    cases h2
section LI
variable {W : Nat → Bool} {x n n1 Lf : Nat} {T T1 : tm_H} {M M1 : mj_M} {t u t1 u1 : Int32}
theorem lx_13 {j : Nat} (h : j < 72) : lx_b1 (1300 + j) = true := by
  unfold lx_b1
  simp only [Bool.or_eq_true, Bool.and_eq_true, Nat.ble_eq]
  exact Or.inl (Or.inr ⟨by omega, by omega⟩)
theorem lx_20 {j : Nat} (h : j < 72) : lx_b1 (20000 + j) = true := by
  unfold lx_b1
  simp only [Bool.or_eq_true, Bool.and_eq_true, Nat.ble_eq]
  exact Or.inr ⟨by omega, by omega⟩
theorem lx_b12 (hW : ∀ k, lx_b2 k = true → W k = false) : ∀ k, lx_b1 k = true → W k = false := fun k hk => hW k (by unfold lx_b2; rw [hk]; rfl)
theorem lx_A (I : tm_I tm_FT (fun _ => true) 0 T M n T M n) (J : tm_I tm_FT W x T M n T1 M1 n1) (to : T 99 = some (0, 13, 0)) (hW : ∀ k, lx_b1 k = true → W k = false) {L : List Nat} (h : (L.all fun j => rgK j && decide (j < 72)) = true) : sA L M M1 99 := sA_c I J to (List.all_eq_true.mpr fun j hj => by
  have q := List.all_eq_true.mp h j hj
  simp only [Bool.and_eq_true, decide_eq_true_eq] at q
  rw [q.1, hW _ (lx_13 q.2), hW _ (lx_20 q.2)]
  rfl)
theorem lx_F (I : tm_I tm_FT (fun _ => true) 0 T M n T M n) (J : tm_I tm_FT W x T M n T1 M1 n1) (to : T 99 = some (0, 13, 0)) (hW : ∀ k, lx_b1 k = true → W k = false) {L : List Nat} (h : (L.all fun j => decide (j < 72)) = true) : sF L M M1 99 := sF_c I J to (List.all_eq_true.mpr fun j hj => by
  have q := List.all_eq_true.mp h j hj
  simp only [decide_eq_true_eq] at q
  rw [hW _ (lx_13 q)]
  rfl)
/-- behind a call of the desk -/
theorem lx_I.desk1 (h : lx_I T M n Lf t u) (J : tm_I tm_FT W x T M n T1 M1 n1) (hW : ∀ k, lx_b1 k = true → W k = false) (D : lx_D T1 M1 Lf) (ht : tm_at M1 64 12 12 (.int t1)) : lx_I T1 M1 n1 Lf t1 u := by
  obtain ⟨I, h64, h99, h148, hLf, qLf, q12, q1, D0, R, C, P, B, X⟩ := h
  have a : ∀ {L : List Nat}, (L.all fun j => rgK j && decide (j < 72)) = true → sA L M M1 99 := fun h => lx_A I J h99 hW h
  have f : ∀ {L : List Nat}, (L.all fun j => decide (j < 72)) = true → sF L M M1 99 := fun h => lx_F I J h99 hW h
  exact ⟨tm_I.rf J.1 J.2.1 (Nat.le_trans J.2.2.1 J.2.2.2.1), J.up h64, J.up h99, J.up h148, J.up hLf, J.keep h64 (hW 1206 rfl) qLf, ht, J.keep h99 (hW 1301 rfl) q1, D, rI_call I J h99 (fun k hk => hW _ (lx_13 hk)) (fun k hk => hW _ (lx_20 hk)) R, C.same (a (by decide)) (f (by decide)), P.same (a (by decide)) (f (by decide)), B.same (a (by decide)) (f (by decide)), X.same (a (by decide)) (f (by decide))⟩
theorem lx_I.desk (h : lx_I T M n Lf t u) (J : tm_I tm_FT W x T M n T1 M1 n1) (hW : ∀ k, lx_b2 k = true → W k = false) : lx_I T1 M1 n1 Lf t u :=
  h.desk1 J (lx_b12 hW) (lx_D.keep h.1.1 h.2.2.2.2.1 J (hW 600 rfl) (hW 608 rfl) (hW 611 rfl) (hW 5003 rfl) (hW 5006 rfl) h.2.2.2.2.2.2.2.2.1) (J.keep h.2.1 (hW 1212 rfl) h.2.2.2.2.2.2.1)
/-- behind a call of the reference -/
theorem lx_I.ref (h : lx_I T M n Lf t u) (J : tm_I tm_FT W x T M n T1 M1 n1) (hW : ∀ k, lx_b3 k = true → W k = false) (hu : tm_at M1 99 13 1 (.int u1)) (R : rI M1 99) (C : rC M1 99 44) (P : rP M1 99) (B : rB M1 99 12) (X : rX M1 99) : lx_I T1 M1 n1 Lf t u1 := by
  obtain ⟨I, h64, h99, h148, hLf, qLf, q12, q1, D0, -⟩ := h
  exact ⟨tm_I.rf J.1 J.2.1 (Nat.le_trans J.2.2.1 J.2.2.2.1), J.up h64, J.up h99, J.up h148, J.up hLf, J.keep h64 (hW 1206 rfl) qLf, J.keep h64 (hW 1212 rfl) q12, hu, lx_D.keep I.1 hLf J (hW 600 rfl) (hW 608 rfl) (hW 611 rfl) (hW 5003 rfl) (hW 5006 rfl) D0, R, C, P, B, X⟩
end LI
section LV
variable {g : mj_G} {l : Launch} {y : mj_Y} {d pc : Nat} {lv lv' : List (Nat × Value)} {st : List Value} {M : mj_M} {nx kc ks : Nat} {Q : Option Value → mj_M → Nat → Prop}
/-- fewer locals -/
theorem mv_drop (h : ∀ q ∈ lv, q ∈ lv') (k : mj_V g l y d pc lv st M nx kc ks Q) : mj_V g l y d pc lv' st M nx kc ks Q := by
  intro p e R s m args below meth c H locs ls cells slots TC TS X hR hS hl h3 h4 h5 h6
  refine k p e R s m args below meth c H locs ls cells slots TC TS X hR hS ⟨hl.1, hl.2.1, fun q hq => ?_⟩ h3 h4 h5 h6
  obtain ⟨q0, hq0, rfl⟩ := List.mem_map.mp hq
  exact hl.2.2 _ (List.mem_map.mpr ⟨q0, h q0 hq0, rfl⟩)
end LV
