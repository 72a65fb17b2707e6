/-! THE SCHEMES: open or not, the last DAY for objections, who objects: a row of 100 flags for each (p14, p15; behind dvals) -/
/-- how many of the first n -/
def p_cn (g : Nat → Int) : Nat → Int
  | 0 => 0
  | n + 1 => if g n = 0 then p_cn g n else p_cn g n + 1
theorem p_cn_cg {f g : Nat → Int} : ∀ n : Nat, (∀ i, i < n → f i = g i) → p_cn f n = p_cn g n
  | 0, _ => rfl
  | n + 1, h => by
    show (if f n = 0 then p_cn f n else p_cn f n + 1) = if g n = 0 then p_cn g n else p_cn g n + 1
    rw [h n (Nat.lt_succ_self n), p_cn_cg n (fun i hi => h i (Nat.lt_succ_of_lt hi))]
theorem p_cn_0 {g : Nat → Int} : ∀ n : Nat, 0 ≤ p_cn g n
  | 0 => Int.le_refl 0
  | n + 1 => by
    have h := p_cn_0 (g := g) n
    show 0 ≤ if g n = 0 then p_cn g n else p_cn g n + 1
    split
    · exact h
    · omega
/-- one is changed -/
def p_ro (g : Nat → Int) (Y : Nat) (v : Int) : Nat → Int := fun j => if j = Y then v else g j
theorem p_cn_out {g : Nat → Int} {Y : Nat} {v : Int} (n : Nat) (h : n ≤ Y) : p_cn (p_ro g Y v) n = p_cn g n :=
  p_cn_cg n (fun i hi => if_neg (by omega))
theorem p_cn_in {g : Nat → Int} {Y : Nat} {v : Int} : ∀ n : Nat, Y < n → p_cn (p_ro g Y v) n = p_cn g n + (if v = 0 then 0 else 1) - (if g Y = 0 then 0 else 1)
  | 0, h => absurd h (Nat.not_lt_zero Y)
  | n + 1, h => by
    show (if p_ro g Y v n = 0 then p_cn (p_ro g Y v) n else p_cn (p_ro g Y v) n + 1) = (if g n = 0 then p_cn g n else p_cn g n + 1) + (if v = 0 then 0 else 1) - (if g Y = 0 then 0 else 1)
    by_cases e : n = Y
    · subst e
      rw [p_cn_out n (Nat.le_refl n), show p_ro g n v n = v from if_pos rfl]
      (repeat' split) <;> omega
    · rw [p_cn_in n (by omega), show p_ro g Y v n = g n from if_neg e]
      (repeat' split) <;> omega
theorem p_cn_all {n : Nat} : p_cn (fun _ => 0) n = 0 := by
  induction n with
  | zero => rfl
  | succ n ih => exact (if_pos rfl).trans ih
section SG
variable {W : Nat → Bool} {x n0 n n1 o L S R1 N X Y s : Nat} {T T0 T1 : tm_H} {M M0 M1 : mj_M} {R : Nat → Nat} {G : Nat → Nat → Int} {op la g1 : Nat → Int} {a b : Int}
theorem ra_g {o c k R : Nat} (h : tm_at M o c k (.ref R)) (h1 : tm_at M1 o c k (.ref R)) (e : M1 R = M R) (i : Nat) : ra M1 o k i = ra M o k i := by
  unfold ra
  rw [tm_rr h1, tm_rr h, e]
/-- a scheme: its last DAY, open or not, the objections -/
def qY (M : mj_M) (s R1 : Nat) (a b : Int) (g : Nat → Int) : Prop := ∃ e z c : Int32, tm_at M s 11 4 (.int e) ∧ e.toInt = b ∧ tm_at M s 11 5 (.int z) ∧ (z.toInt = 0 ↔ a = 0) ∧ tm_at M s 11 7 (.int c) ∧ c.toInt = p_cn g 100 ∧ tm_at M s 11 10 (.ref R1) ∧ ∀ y : Nat, y < 100 → ra M s 10 y = g y
/-- those that the desk has: their rows are all different -/
def qH (M : mj_M) (L S : Nat) (R : Nat → Nat) (op la : Nat → Int) (G : Nat → Nat → Int) : Prop := (∀ i j : Nat, i < S → j < S → R i = R j → i = j) ∧ ∀ i : Nat, i < S → ∃ s, tm_ge M L i s ∧ qY M s (R i) (op i) (la i) (G i)
theorem tm_gs (h0 : tm_W tm_FT T M) (tf : T s = some (0, 11, 0)) (h : tm_at M s 11 10 (.ref R1)) : T R1 = some (1, 9282, 100) := by
  obtain ⟨fs, hm, hl, hfs⟩ := h0 s _ tf
  obtain ⟨v, e1, e2⟩ := hfs 10 (2, 1, 9282, 100) rfl
  obtain ⟨fs1, e3, e4⟩ := h
  cases hm.symm.trans e3
  cases e4.symm.trans e1
  obtain ⟨b9, e5, e6⟩ := e2
  cases e5
  exact e6
theorem tm_keepH (J : tm_I tm_FT W x T M n T1 M1 n1) (h : T R1 = some (1, 9282, N)) (hW : W 1160 = false) : M1 R1 = M R1 := J.2.2.2.2.2.2.1 R1 _ h (by show W (9282 / 8) = false; exact hW)
theorem qH.ts (h0 : tm_W tm_FT T M) (tL : T L = some (3, 11, o)) {i : Nat} (g : tm_ge M L i s) : T s = some (0, 11, 0) := by
  obtain ⟨m, k, e, N, g9, hls⟩ := h0 L _ tL
  exact (tm_ge.el hls g).2.2
theorem qY.keepU (h : qY M s R1 a b g1) (h0 : tm_W tm_FT T M) (J : tm_I tm_FT W x T M n T1 M1 n1) (ts : T s = some (0, 11, 0)) (w4 : W 1104 = false) (w5 : W 1105 = false) (w7 : W 1107 = false) (w10 : W 1110 = false) (U : ∀ R : Nat, T R = some (1, 9282, 100) → M1 R = M R) : qY M1 s R1 a b g1 := by
  obtain ⟨e, z, c, h1, h2, h3, h4, h5, h6, h7, h8⟩ := h
  have h9 := J.keep ts w10 h7
  exact ⟨e, z, c, J.keep ts w4 h1, h2, J.keep ts w5 h3, h4, J.keep ts w7 h5, h6, h9, fun y hy => (ra_g h7 h9 (U _ (tm_gs h0 ts h7)) y).trans (h8 y hy)⟩
theorem qH.keepU (h : qH M L S R op la G) (h0 : tm_W tm_FT T M) (J : tm_I tm_FT W x T M n T1 M1 n1) (tL : T L = some (3, 11, o)) (w4 : W 1104 = false) (w5 : W 1105 = false) (w7 : W 1107 = false) (w10 : W 1110 = false) (U : ∀ R : Nat, T R = some (1, 9282, 100) → M1 R = M R) (E : ∀ i b : Nat, tm_ge M L i b → tm_ge M1 L i b) : qH M1 L S R op la G := by
  refine ⟨h.1, fun i hi => ?_⟩
  obtain ⟨s, h3, h4⟩ := h.2 i hi
  exact ⟨s, E _ _ h3, h4.keepU h0 J (qH.ts h0 tL h3) w4 w5 w7 w10 U⟩
theorem qH.keep (h : qH M L S R op la G) (h0 : tm_W tm_FT T M) (J : tm_I tm_FT W x T M n T1 M1 n1) (tL : T L = some (3, 11, o)) (w4 : W 1104 = false) (w5 : W 1105 = false) (w7 : W 1107 = false) (w10 : W 1110 = false) (w60 : W 1160 = false) (w11 : W 5011 = false) : qH M1 L S R op la G :=
  h.keepU h0 J tL w4 w5 w7 w10 (fun _ hR => tm_keepH J hR w60) (fun _ _ hg => tm_I.keepG h0 J tL w11 hg)
/-- one scheme more -/
theorem qH.more (h : qH M L S R op la G) (g : tm_ge M L S s) (q : qY M s R1 a b (G S)) (hR : ∀ i : Nat, i < S → R i ≠ R1) : qH M L (S + 1) (fun i => if i = S then R1 else R i) (p_ro op S a) (p_ro la S b) G := by
  refine ⟨fun i j hi hj e => ?_, fun i hi => ?_⟩
  · by_cases e1 : i = S
    · by_cases e2 : j = S
      · omega
      · simp only [if_pos e1, if_neg e2] at e
        exact absurd e.symm (hR j (by omega))
    · by_cases e2 : j = S
      · simp only [if_neg e1, if_pos e2] at e
        exact absurd e (hR i (by omega))
      · simp only [if_neg e1, if_neg e2] at e
        exact h.1 i j (by omega) (by omega) e
  · unfold p_ro
    by_cases e1 : i = S
    · subst e1
      simp only [if_pos]
      exact ⟨s, g, q⟩
    · simp only [if_neg e1]
      exact h.2 i (by omega)
/-- one scheme is changed -/
theorem qH.put {G1 : Nat → Nat → Int} {op1 : Nat → Int} (h : qH M L S R op la G) (h0 : tm_W tm_FT T M) (tL : T L = some (3, 11, o)) (E : ∀ i b : Nat, tm_ge M L i b → tm_ge M1 L i b) (hX : X < S) (g : tm_ge M L X s) (q : qY M1 s (R X) (op1 X) (la X) (G1 X)) (eo : ∀ i : Nat, i ≠ X → op1 i = op i) (eG : ∀ i : Nat, i ≠ X → G1 i = G i) (F4 : ∀ (b : Nat) (w : Value), T b = some (0, 11, 0) → b ≠ s → tm_at M b 11 4 w → tm_at M1 b 11 4 w) (F5 : ∀ (b : Nat) (w : Value), T b = some (0, 11, 0) → b ≠ s → tm_at M b 11 5 w → tm_at M1 b 11 5 w) (F7 : ∀ (b : Nat) (w : Value), T b = some (0, 11, 0) → b ≠ s → tm_at M b 11 7 w → tm_at M1 b 11 7 w) (F10 : ∀ (b : Nat) (w : Value), T b = some (0, 11, 0) → b ≠ s → tm_at M b 11 10 w → tm_at M1 b 11 10 w) (U : ∀ R9 : Nat, T R9 = some (1, 9282, 100) → R9 ≠ R X → M1 R9 = M R9) : qH M1 L S R op1 la G1 := by
  refine ⟨h.1, fun i hi => ?_⟩
  by_cases e1 : i = X
  · subst e1
    exact ⟨s, E _ _ g, q⟩
  · rw [eo i e1, eG i e1]
    obtain ⟨s1, g1, e, z, c, h1, h2, h3, h4, h5, h6, h7, h8⟩ := h.2 i hi
    obtain ⟨s2, g2, e9, z9, c9, k1, k2, k3, k4, k5, k6, k7, k8⟩ := h.2 X hX
    obtain rfl := tm_ge.fn g g2
    have t1 := qH.ts h0 tL g1
    have ne : s1 ≠ s := fun h9 => by
      rw [h9] at h7
      exact e1 (h.1 i X hi hX (tm_at.fnR h7 k7))
    have h9 := F10 s1 _ t1 ne h7
    exact ⟨s1, E _ _ g1, e, z, c, F4 s1 _ t1 ne h1, h2, F5 s1 _ t1 ne h3, h4, F7 s1 _ t1 ne h5, h6, h9, fun y hy => (ra_g h7 h9 (U _ (tm_gs h0 t1 h7) (fun h6 => e1 (h.1 i X hi hX h6))) y).trans (h8 y hy)⟩
/-- somebody objects, or takes it back -/
def p_gu (G : Nat → Nat → Int) (X Y : Nat) (v : Int) : Nat → Nat → Int := fun i => if i = X then p_ro (G X) Y v else G i
theorem p_gu_X {v : Int} : p_gu G X Y v X = p_ro (G X) Y v := if_pos rfl
theorem p_gu_n {v : Int} {i : Nat} (h : i ≠ X) : p_gu G X Y v i = G i := if_neg h
theorem qH.take {v w9 : Int} {P C : Prop} {c : Int32} (h : qH M L S R op la G) (h0 : tm_W tm_FT T M) (J : tm_I tm_FT W x T M n T1 M1 n1) (tL : T L = some (3, 11, o)) (w4 : W 1104 = false) (w5 : W 1105 = false) (w10 : W 1110 = false) (w11 : W 5011 = false) (hX : X < S) (g : tm_ge M L X s) (hq : qY M s (R X) (op X) (la X) (G X)) (hY : Y < 100) (hc : tm_at M s 11 7 (.int c)) (hP : P) (D : (v = 0 ∧ ¬ (P ∧ C) ∧ M1 = M) ∨ (v = 1 ∧ (P ∧ C) ∧ (∀ j : Nat, ra M1 s 10 j = if j = Y then w9 else ra M s 10 j) ∧ ∃ c1 : Int32, tm_at M1 s 11 7 (.int c1) ∧ c1.toInt = c.toInt + (if w9 = 0 then 0 else 1) - (if ra M s 10 Y = 0 then 0 else 1))) (F : ∀ b : Nat, T b = some (0, 11, 0) → b ≠ s → M1 b = M b) (U : ∀ R9 : Nat, T R9 = some (1, 9282, 100) → R9 ≠ R X → M1 R9 = M R9) : (v = 0 ∧ ¬ C ∧ qH M1 L S R op la G) ∨ (v = 1 ∧ C ∧ qH M1 L S R op la (p_gu G X Y w9)) := by
  have E : ∀ i b : Nat, tm_ge M L i b → tm_ge M1 L i b := fun _ _ hg => tm_I.keepG h0 J tL w11 hg
  rcases D with ⟨d1, d2, d3⟩ | ⟨d1, d2, d3, c1, d4, d5⟩
  · refine Or.inl ⟨d1, fun h9 => d2 ⟨hP, h9⟩, ?_⟩
    rw [d3]
    exact h
  · refine Or.inr ⟨d1, d2.2, ?_⟩
    have ts := qH.ts h0 tL g
    obtain ⟨e, z, c9, h1, h2, h3, h4, h5, h6, h7, h8⟩ := hq
    obtain rfl := tm_at.fnI hc h5
    refine h.put h0 tL E hX g ?_ (fun _ _ => rfl) (fun i hi => p_gu_n hi) (fun b w tb hb k => tm_at.eq (F b tb hb) k) (fun b w tb hb k => tm_at.eq (F b tb hb) k) (fun b w tb hb k => tm_at.eq (F b tb hb) k) (fun b w tb hb k => tm_at.eq (F b tb hb) k) U
    rw [p_gu_X]
    refine ⟨e, z, c1, J.keep ts w4 h1, h2, J.keep ts w5 h3, h4, d4, ?_, J.keep ts w10 h7, fun y hy => ?_⟩
    · rw [p_cn_in 100 hY, d5, h6, h8 Y hY]
    · rw [d3 y]
      show _ = if y = Y then w9 else G X y
      by_cases e9 : y = Y
      · rw [if_pos e9, if_pos e9]
      · rw [if_neg e9, if_neg e9]
        exact h8 y hy
/-- a scheme is settled -/
theorem qH.close {z1 : Int32} (h : qH M L S R op la G) (h0 : tm_W tm_FT T M) (J : tm_I tm_FT W x T M n T1 M1 n1) (tL : T L = some (3, 11, o)) (w4 : W 1104 = false) (w7 : W 1107 = false) (w10 : W 1110 = false) (w60 : W 1160 = false) (w11 : W 5011 = false) (hX : X < S) (g : tm_ge M L X s) (hz : tm_at M1 s 11 5 (.int z1)) (hn : z1.toInt ≠ 0) (F : ∀ (b : Nat) (w : Value), T b = some (0, 11, 0) → b ≠ s → tm_at M b 11 5 w → tm_at M1 b 11 5 w) : qH M1 L S R (p_ro op X 1) la G := by
  have E : ∀ i b : Nat, tm_ge M L i b → tm_ge M1 L i b := fun _ _ hg => tm_I.keepG h0 J tL w11 hg
  have ts := qH.ts h0 tL g
  obtain ⟨s2, g2, e, z, c, h1, h2, h3, h4, h5, h6, h7, h8⟩ := h.2 X hX
  obtain rfl := tm_ge.fn g g2
  have h9 := J.keep ts w10 h7
  refine h.put h0 tL E hX g ?_ (fun i hi => if_neg hi) (fun _ _ => rfl) (fun b w tb _ k => J.keep tb w4 k) F (fun b w tb _ k => J.keep tb w7 k) (fun b w tb _ k => J.keep tb w10 k) (fun R9 t9 _ => tm_keepH J t9 w60)
  refine ⟨e, z1, c, J.keep ts w4 h1, h2, hz, ?_, J.keep ts w7 h5, h6, h9, fun y hy => (ra_g h7 h9 (tm_keepH J (tm_gs h0 ts h7) w60) y).trans (h8 y hy)⟩
  rw [show p_ro op X 1 X = 1 from if_pos rfl]
  exact ⟨fun h9 => absurd h9 hn, fun h9 => absurd h9 (by decide)⟩
/-- the reference's -/
def aH (M : mj_M) (S : Nat) (op la : Nat → Int) (G : Nat → Nat → Int) : Prop := (∀ i : Nat, i < S → (ra M 99 59 i = 0 ↔ op i = 0) ∧ ra M 99 58 i = la i) ∧ (∀ i y : Nat, i < 40 → y < 100 → ra M 99 61 (100 * i + y) = G i y) ∧ (∀ i y : Nat, S ≤ i → G i y = 0) ∧ ∀ i : Nat, p_cn (G i) 100 ≤ 10
theorem aH.same (h : aH M S op la G) (e8 : ∀ i, ra M1 99 58 i = ra M 99 58 i) (e9 : ∀ i, ra M1 99 59 i = ra M 99 59 i) (e1 : ∀ i, ra M1 99 61 i = ra M 99 61 i) : aH M1 S op la G :=
  ⟨fun i hi => by rw [e8, e9]; exact h.1 i hi, fun i y hi hy => (e1 _).trans (h.2.1 i y hi hy), h.2.2⟩
theorem aH.more (h : aH M S op la G) (e8 : ∀ i, ra M1 99 58 i = if i = S then b else ra M 99 58 i) (e9 : ∀ i, ra M1 99 59 i = if i = S then 0 else ra M 99 59 i) (e1 : ∀ i, ra M1 99 61 i = ra M 99 61 i) : aH M1 (S + 1) (p_ro op S 0) (p_ro la S b) G := by
  refine ⟨fun i hi => ?_, fun i y hi hy => (e1 _).trans (h.2.1 i y hi hy), fun i y hi => h.2.2.1 i y (by omega), h.2.2.2⟩
  rw [e8, e9]
  unfold p_ro
  by_cases e : i = S
  · rw [if_pos e, if_pos e, if_pos e, if_pos e]
    exact ⟨Iff.rfl, rfl⟩
  · rw [if_neg e, if_neg e, if_neg e, if_neg e]
    exact h.1 i (by omega)
theorem aH.put {v : Int} (h : aH M S op la G) (hX : X < S) (hY : Y < 100) (hn : p_cn (p_ro (G X) Y v) 100 ≤ 10) (e8 : ∀ i, ra M1 99 58 i = ra M 99 58 i) (e9 : ∀ i, ra M1 99 59 i = ra M 99 59 i) (e1 : ∀ i, ra M1 99 61 i = if i = 100 * X + Y then v else ra M 99 61 i) : aH M1 S op la (p_gu G X Y v) := by
  refine ⟨fun i hi => by rw [e8, e9]; exact h.1 i hi, fun i y hi hy => ?_, fun i y hi => ?_, fun i => ?_⟩
  · rw [e1]
    by_cases e : i = X
    · subst e
      rw [p_gu_X]
      show _ = if y = Y then v else G i y
      by_cases e2 : y = Y
      · rw [if_pos e2, if_pos (by omega)]
      · rw [if_neg e2, if_neg (by omega)]
        exact h.2.1 i y hi hy
    · rw [p_gu_n e, if_neg (by omega)]
      exact h.2.1 i y hi hy
  · rw [p_gu_n (show i ≠ X by omega)]
    exact h.2.2.1 i y hi
  · by_cases e : i = X
    · subst e
      rw [p_gu_X]
      exact hn
    · rw [p_gu_n e]
      exact h.2.2.2 i
theorem aH.close (h : aH M S op la G) (hn : ra M1 99 59 X ≠ 0) (e8 : ∀ i, ra M1 99 58 i = ra M 99 58 i) (e9 : ∀ i, i ≠ X → ra M1 99 59 i = ra M 99 59 i) (e1 : ∀ i, ra M1 99 61 i = ra M 99 61 i) : aH M1 S (p_ro op X 1) la G := by
  refine ⟨fun i hi => ?_, fun i y hi hy => (e1 _).trans (h.2.1 i y hi hy), h.2.2⟩
  rw [e8]
  unfold p_ro
  by_cases e : i = X
  · subst e
    rw [if_pos rfl]
    exact ⟨⟨fun h9 => absurd h9 hn, fun h9 => absurd h9 (by decide)⟩, (h.1 i hi).2⟩
  · rw [if_neg e, e9 i e]
    exact h.1 i hi
end SG
section GB
variable {g : mj_G} {l : Launch} {y : mj_Y} {d pc : Nat} {lv : List (Nat × Value)} {st : List Value} {M M0 M1 : mj_M} {nx n0 kc ks x o : Nat} {Q : Option Value → mj_M → Nat → Prop} {W : Nat → Bool} {T T0 : tm_H}
theorem tr_zaldC {o c k a e N : Nat} {i : Int32} (I : tm_I tm_FT W x T0 M0 n0 T M nx) (hq : tm_at M o c k (.ref a)) (ta : T a = some (1, e, N)) (he : e % 8 = 2) (hd : decode y.2.1 pc = .ok (.baload, 1)) (hin : vp_in i N) (kk : ∀ v : Int32, v.toInt = ra M o k i.toNatClampNeg → mj_V g l y d (pc + 1) lv (.int v :: st) M nx kc ks Q) : mj_V g l y d pc lv (.int i :: .ref a :: st) M nx kc ks Q := by
  obtain ⟨f, hm⟩ := tm_arrI I ta (by omega)
  have hm0 := hm
  rw [he] at hm
  exact mv_zald hd hm hin rfl (kk _ (by rw [ra_of hq hm0]; rfl))
theorem tr_zastC {c k a e N : Nat} {i v : Int32} (I : tm_I tm_FT W x T0 M0 n0 T M nx) (hq : tm_at M o c k (.ref a)) (ta : T a = some (1, e, N)) (he : e % 8 = 2) (hW : W (e / 8) = true ∨ n0 ≤ a) (hd : decode y.2.1 pc = .ok (.bastore, 1)) (hin : vp_in i N) (kk : ∀ M1, tm_I tm_FT W x T0 M0 n0 T M1 nx → (∀ (b c k : Nat) (w : Value), tm_at M b c k w → tm_at M1 b c k w) → (∀ j, ra M1 o k j = if j = i.toNatClampNeg then (vp_nar .boolean v).toInt else ra M o k j) → (∀ b, b ≠ a → M1 b = M b) → mj_V g l y d (pc + 1) lv st M1 nx kc ks Q) : mj_V g l y d pc lv (.int v :: .int i :: .ref a :: st) M nx kc ks Q := by
  obtain ⟨f, hm⟩ := tm_arrI I ta (by omega)
  have hm0 := hm
  rw [he] at hm
  have hra : ∀ j, ra M o k j = (f j).toInt := fun j => by rw [ra_of hq hm0]; rfl
  refine mv_zast hd hm hin rfl (kk _ (I.ast tm_okF ta hW (tm_c1 (by omega) (by rw [mj_up_self, he]))) (tm_at.ast hm0) (fun j => ?_) (fun b hb => mj_up_ne _ _ hb))
  have h1 := tm_at.ast (c9 := .inl (2, N, .inl (upd f i.toNatClampNeg (vp_nar .boolean v)))) hm0 _ _ _ _ hq
  rw [ra_of h1 (mj_up_self _ _ _) j, hra]
  show (upd f i.toNatClampNeg (vp_nar .boolean v) j).toInt = _
  unfold upd
  by_cases h : j = i.toNatClampNeg
  · rw [if_pos h, if_pos h]
  · rw [if_neg h, if_neg h]
end GB
section MRG
variable {g : mj_G} {l : Launch} {y : mj_Y} {d pc : Nat} {lv : List (Nat × Value)} {st : List Value} {M M0 : mj_M} {nx n0 kc ks x : Nat} {Q : Option Value → mj_M → Nat → Prop} {W : Nat → Bool} {T T0 : tm_H}
/-- a flag of a row is written, told exactly -/
theorem tr_zastE {o k a e N : Nat} {i : Int32} {v : Int32} (I : tm_I tm_FT W x T0 M0 n0 T M nx) (R : rI M o) (to : T o = some (0, 13, 0)) (hq : tm_at M o 13 k (.ref a)) (ta : T a = some (1, e, N)) (he : e % 8 = 2) (he2 : e / 8 = 20000 + k) (hb : ∀ lo hi, rgA k = some (lo, hi) → lo ≤ (vp_nar .boolean v).toInt ∧ (vp_nar .boolean v).toInt ≤ hi) (hW : W (e / 8) = true ∨ n0 ≤ a) (hd : decode y.2.1 pc = .ok (.bastore, 1)) (hin : vp_in i N) (kk : ∀ M1, tm_I tm_FT W x T0 M0 n0 T M1 nx → (∀ (b c k : Nat) (w : Value), tm_at M b c k w → tm_at M1 b c k w) → rI M1 o → (∀ j, ra M1 o k j = if j = i.toNatClampNeg then (vp_nar .boolean v).toInt else ra M o k j) → (∀ j, j ≠ k → rgK j = true → ∀ i, ra M1 o j i = ra M o j i) → (∀ j, rv M1 o j = rv M o j) → mj_V g l y d (pc + 1) lv st M1 nx kc ks Q) : mj_V g l y d pc lv (.int v :: .int i :: .ref a :: st) M nx kc ks Q := by
  obtain ⟨f, hm⟩ := tm_arrI I ta (by omega)
  have hm0 := hm
  rw [he] at hm
  have hra : ∀ j, ra M o k j = (f j).toInt := fun j => by rw [ra_of hq hm0]; rfl
  have hrc : ∀ j, ((upd f i.toNatClampNeg (vp_nar .boolean v)) j).toInt = if j = i.toNatClampNeg then (vp_nar .boolean v).toInt else (f j).toInt := fun j => by
    unfold upd
    by_cases h : j = i.toNatClampNeg
    · rw [if_pos h, if_pos h]
    · rw [if_neg h, if_neg h]
  refine mv_zast hd hm hin rfl (kk _ (I.ast tm_okF ta hW (tm_c1 (by omega) (by rw [mj_up_self, he]))) (tm_at.ast hm0) (rI_st I R to ta hq he2 fun lo hi hk j => ?_) (fun j => ?_) (fun j hj hK j2 => (ra_st I to ta hq he2 j2).2.2 hj hK) (fun j => (ra_st I to ta hq he2 0).1))
  · show lo ≤ ((upd f i.toNatClampNeg (vp_nar .boolean v)) j).toInt ∧ ((upd f i.toNatClampNeg (vp_nar .boolean v)) j).toInt ≤ hi
    rw [hrc]
    by_cases h : j = i.toNatClampNeg
    · rw [if_pos h]
      exact hb lo hi hk
    · rw [if_neg h, ← hra]
      exact R.a hk j
  · rw [(ra_st (j := k) I to ta hq he2 j).2.1]
    show ((upd f i.toNatClampNeg (vp_nar .boolean v)) j).toInt = _
    rw [hrc, hra]
end MRG
theorem tr_newzV {g : mj_G} {l : Launch} {y : mj_Y} {d pc : Nat} {lv : List (Nat × Value)} {st : List Value} {M M0 : mj_M} {nx n0 kc ks x : Nat} {Q : Option Value → mj_M → Nat → Prop} {W : Nat → Bool} {T T0 : tm_H} {E N kc' ks' : Nat} {n : Int32} (hF : tm_ok tm_FT) (I : tm_I tm_FT W x T0 M0 n0 T M nx) (hE : E % 8 = 2) (hd : decode y.2.1 pc = .ok (.newarray .boolean, 2)) (hn : ¬ n < 0) (hN : n.toNatClampNeg = N) (hbt : N * 1 ≤ 536870912) (hkc : kc' + 1 ≤ kc) (hks : ks' + N ≤ ks) (kk : ∀ (T1 : tm_H) (M1 : mj_M), tm_I tm_FT W x T0 M0 n0 T1 M1 (nx + 1) → T1 nx = some (1, E, N) → (∀ b t, T b = some t → T1 b = some t) → (∀ b t, T b = some t → M1 b = M b) → M1 nx = some (.inl (2, N, .inl (fun _ => 0))) → mj_V g l y d (pc + 2) lv (.ref nx :: st) M1 (nx + 1) kc' ks' Q) : mj_V g l y d pc lv (.int n :: st) M nx kc ks Q :=
  mv_newa_bool hd hn hN hbt hkc hks (kk _ _ (I.arr hF (fun T1 => tm_c1 (by omega) (by rw [mj_up_self, hE]))) (if_pos rfl) (fun b t h => (if_neg (tm_ne I h)).trans h) (fun b t h => mj_up_ne _ _ (tm_ne I h)) (mj_up_self _ _ _))
