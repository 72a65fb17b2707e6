/-! THE SCHEMES: the same in both (p14, p15; behind kra.hand.txt, whose lx_K is called lx_K1 here) -/
def lx_SD (T : tm_H) (M : mj_M) (S : Nat) (R : Nat → Nat) (op la : Nat → Int) (G : Nat → Nat → Int) : Prop := ∃ (Ls : Nat) (ks : Int32), (T Ls = some (3, 11, 64) ∧ tm_at M 64 12 8 (.ref Ls)) ∧ (tm_at M Ls 0 2 (.int ks) ∧ ks.toInt = (S : Int)) ∧ qH M Ls S R op la G
def lx_SM (M : mj_M) (S : Nat) (op la : Nat → Int) (G : Nat → Nat → Int) : Prop := rv M 99 53 = (S : Int) ∧ aH M S op la G
def lx_S (T : tm_H) (M : mj_M) : Prop := ∃ (S : Nat) (R : Nat → Nat) (op la : Nat → Int) (G : Nat → Nat → Int), lx_SD T M S R op la G ∧ lx_SM M S op la G
def lx_K (T : tm_H) (M : mj_M) (n : Nat) (t : Int32) : Prop := lx_K1 T M n t ∧ lx_S T M
def lx_bS (k : Nat) : Bool := Nat.beq k 1104 || Nat.beq k 1105 || Nat.beq k 1107 || Nat.beq k 1110 || Nat.beq k 1160 || Nat.beq k 1208 || Nat.beq k 5011
def lx_bT (k : Nat) : Bool := Nat.beq k 1353 || Nat.beq k 1358 || Nat.beq k 20058 || Nat.beq k 1359 || Nat.beq k 20059 || Nat.beq k 1361 || Nat.beq k 20061
def lx_bO (k : Nat) : Bool := (lx_bL k || lx_bS k) || lx_bT k
section LKS
variable {W : Nat → Bool} {x n n1 Lf S : Nat} {T T1 : tm_H} {M M1 : mj_M} {t u t9 t1 : Int32} {R : Nat → Nat} {op la : Nat → Int} {G : Nat → Nat → Int}
theorem lx_SD.keep (h : lx_I T M n Lf t u) (J : tm_I tm_FT W x T M n T1 M1 n1) (hW : ∀ k, lx_bS k = true → W k = false) (k : lx_SD T M S R op la G) : lx_SD T1 M1 S R op la G := by
  obtain ⟨Ls, ks, ⟨h1, h2⟩, ⟨h3, h4⟩, h5⟩ := k
  exact ⟨Ls, ks, ⟨J.up h1, J.keep h.2.1 (hW 1208 rfl) h2⟩, ⟨J.keepL h1 (hW 5011 rfl) h3, h4⟩, h5.keep h.1.1 J h1 (hW 1104 rfl) (hW 1105 rfl) (hW 1107 rfl) (hW 1110 rfl) (hW 1160 rfl) (hW 5011 rfl)⟩
theorem lx_SM.keep (h : lx_I T M n Lf t u) (J : tm_I tm_FT W x T M n T1 M1 n1) (hW : ∀ k, lx_bT k = true → W k = false) (k : lx_SM M S op la G) : lx_SM M1 S op la G := by
  obtain ⟨h1, h2⟩ := k
  exact ⟨(rv_c h.1 J h.2.2.1 (k := 53) (hW 1353 rfl)).trans h1, h2.same (fun i => ra_call h.1 J h.2.2.1 (k := 58) rfl (hW 1358 rfl) (hW 20058 rfl) i) (fun i => ra_call h.1 J h.2.2.1 (k := 59) rfl (hW 1359 rfl) (hW 20059 rfl) i) (fun i => ra_call h.1 J h.2.2.1 (k := 61) rfl (hW 1361 rfl) (hW 20061 rfl) i)⟩
theorem lx_bOL (hW : ∀ k, lx_bO k = true → W k = false) : ∀ k, lx_bL k = true → W k = false := fun k hk => hW k (by unfold lx_bO; rw [hk]; rfl)
theorem lx_bOS (hW : ∀ k, lx_bO k = true → W k = false) : ∀ k, lx_bS k = true → W k = false := fun k hk => hW k (by unfold lx_bO; rw [hk, Bool.or_true]; rfl)
theorem lx_bOT (hW : ∀ k, lx_bO k = true → W k = false) : ∀ k, lx_bT k = true → W k = false := fun k hk => hW k (by unfold lx_bO; rw [hk, Bool.or_true])
theorem lx_Kkeep (h : lx_I T M n Lf t u) (J : tm_I tm_FT W x T M n T1 M1 n1) (hW : ∀ k, lx_bO k = true → W k = false) (k : lx_K T M n t9) : lx_K T1 M1 n1 t9 := by
  obtain ⟨k0, S, R, op, la, G, k1, k2⟩ := k
  exact ⟨lx_K1keep h J (lx_bOL hW) k0, S, R, op, la, G, k1.keep h J (lx_bOS hW), k2.keep h J (lx_bOT hW)⟩
theorem lx_Kt (_ : t.toInt ≤ t1.toInt) (k : lx_K T M n t) : lx_K T M n t1 := k
end LKS
/-- a number told lies between 0 and 720 -/
theorem sc_r {M : mj_M} {o b w : Nat} {v : Int} (h0 : 0 ≤ v ∧ v ≤ 720) : ∀ c : Nat, (∀ k : Nat, k < c → 0 ≤ ra M o 8 (b + k) ∧ ra M o 8 (b + k) ≤ 720) → 0 ≤ sc M o b c w v ∧ sc M o b c w v ≤ 720
  | 0, _ => h0
  | c + 1, h => by
    have h1 := sc_r (w := w) h0 c (fun k hk => h k (Nat.lt_succ_of_lt hk))
    show 0 ≤ (if ra M o 7 (b + c) = (w : Int) then ra M o 8 (b + c) else sc M o b c w v) ∧ (if ra M o 7 (b + c) = (w : Int) then ra M o 8 (b + c) else sc M o b c w v) ≤ 720
    by_cases e : ra M o 7 (b + c) = (w : Int)
    · rw [if_pos e]
      exact h c (Nat.lt_succ_self c)
    · rw [if_neg e]
      exact h1
theorem p_dv_9 : ∀ w : Nat, 0 ≤ p_dv w ∧ p_dv w ≤ 720
  | 0 => by decide
  | 1 => by decide
  | 2 => by decide
  | 3 => by decide
  | 4 => by decide
  | _ + 5 => show (0 : Int) ≤ 20 ∧ (20 : Int) ≤ 720 from by decide
theorem p_told_r {M : mj_M} {A : Nat} {fr : Nat → Int} {va : Nat → Nat → Int} (R : rI M 99) (y8 : ∀ i : Nat, i < 880 → 0 ≤ ra M 99 8 i) (k : lx_AM M A fr va) {w : Nat} (hw : w < 6) (day : Int) : 0 ≤ p_told fr va day A w ∧ p_told fr va day A w ≤ 720 := by
  have e27 := k.1
  have r27 := R.1 27 _ _ rfl
  have ro := p_on_r (fr := fr) (day := day) A
  unfold p_told
  by_cases h9 : p_on fr day A = -1
  · rw [if_pos h9]
    exact p_dv_9 w
  · rw [if_neg h9]
    have hA : ((p_on fr day A).toNat : Int) < (A : Int) := by omega
    rw [← (k.2 _ hA).2 w hw]
    refine sc_r (p_dv_9 w) _ (fun q hq => ?_)
    have r6 := R.2 6 _ _ rfl (p_on fr day A).toNat
    exact ⟨y8 _ (by omega), (R.2 8 _ _ rfl _).2⟩
section LKT
variable {W : Nat → Bool} {x n n1 Lf Ls S A : Nat} {T T1 : tm_H} {M M0 M1 M2 : mj_M} {t u ks : Int32} {R : Nat → Nat} {op la : Nat → Int} {G : Nat → Nat → Int} {fr : Nat → Int} {va : Nat → Nat → Int} {vD vM x1 x2 x3 t0 : Int}
/-- what the reference has of a scheme -/
theorem lx_SM.sees (h : lx_SM M S op la G) (h40 : (S : Int) ≤ 40) (a1 : 0 ≤ x1) (a2 : x1 < (S : Int)) : (ra M 99 59 x1.toNat = 0 ↔ op x1.toNat = 0) ∧ ra M 99 58 x1.toNat = la x1.toNat ∧ p_cn (fun y => ra M 99 61 (100 * x1.toNat + y)) 100 = p_cn (G x1.toNat) 100 ∧ p_cn (G x1.toNat) 100 ≤ 10 ∧ ∀ x2 : Int, 0 ≤ x2 → x2 ≤ 99 → ra M 99 61 (100 * x1 + x2).toNat = G x1.toNat x2.toNat := by
  obtain ⟨h1, h2, h3, h4, h5⟩ := h
  have e := h2 x1.toNat (by omega)
  refine ⟨e.1, e.2, p_cn_cg 100 (fun y hy => h3 x1.toNat y (by omega) hy), h5 _, fun x2 b1 b2 => ?_⟩
  rw [show (100 * x1 + x2).toNat = 100 * x1.toNat + x2.toNat from by omega]
  exact h3 _ _ (by omega) (by omega)
theorem lx_objS (D : (vD = 0 ∧ ¬ (0 ≤ x1 ∧ x1 < ks.toInt ∧ 0 ≤ x2 ∧ x2 ≤ 99 ∧ op x1.toNat = 0 ∧ t0 ≤ la x1.toNat ∧ G x1.toNat x2.toNat = 0 ∧ p_cn (G x1.toNat) 100 < 10) ∧ qH M1 Ls S R op la G) ∨ (vD = 1 ∧ (0 ≤ x1 ∧ x1 < ks.toInt ∧ 0 ≤ x2 ∧ x2 ≤ 99 ∧ op x1.toNat = 0 ∧ t0 ≤ la x1.toNat ∧ G x1.toNat x2.toNat = 0 ∧ p_cn (G x1.toNat) 100 < 10) ∧ qH M1 Ls S R op la (p_gu G x1.toNat x2.toNat 1))) (Q : (vM = 0 ∧ ¬ (0 ≤ x1 ∧ x1 < rv M1 99 53 ∧ 0 ≤ x2 ∧ x2 ≤ 99 ∧ ra M1 99 59 x1.toNat = 0 ∧ rv M1 99 1 ≤ ra M1 99 58 x1.toNat ∧ ra M1 99 61 (100 * x1 + x2).toNat = 0 ∧ p_cn (fun y => ra M1 99 61 (100 * x1.toNat + y)) 100 ≠ 10) ∧ ∀ i, ra M2 99 61 i = ra M1 99 61 i) ∨ (vM = 1 ∧ (0 ≤ x1 ∧ x1 < rv M1 99 53 ∧ 0 ≤ x2 ∧ x2 ≤ 99 ∧ ra M1 99 59 x1.toNat = 0 ∧ rv M1 99 1 ≤ ra M1 99 58 x1.toNat ∧ ra M1 99 61 (100 * x1 + x2).toNat = 0 ∧ p_cn (fun y => ra M1 99 61 (100 * x1.toNat + y)) 100 ≠ 10) ∧ ∀ i, ra M2 99 61 i = if i = (100 * x1 + x2).toNat then 1 else ra M1 99 61 i)) (h : lx_SM M1 S op la G) (hk : ks.toInt = (S : Int)) (ht : rv M1 99 1 = t0) (h40 : (S : Int) ≤ 40) (e8 : ∀ i, ra M2 99 58 i = ra M1 99 58 i) (e9 : ∀ i, ra M2 99 59 i = ra M1 99 59 i) (e53 : rv M2 99 53 = rv M1 99 53) : vD = vM ∧ ∃ G1 : Nat → Nat → Int, qH M1 Ls S R op la G1 ∧ lx_SM M2 S op la G1 := by
  have e3 := h.1
  rcases D with ⟨d1, d2, d3⟩ | ⟨d1, ⟨a1, a2, a3, a4, a5, a6, a7, a8⟩, d3⟩
  · rcases Q with ⟨r1, r2, r3⟩ | ⟨r1, ⟨a1, a2, a3, a4, a5, a6, a7, a8⟩, r3⟩
    · exact ⟨d1.trans r1.symm, G, d3, e53.trans h.1, h.2.same e8 e9 r3⟩
    · obtain ⟨f1, f2, f3, f4, f5⟩ := h.sees h40 a1 (by omega)
      have f6 := f5 x2 a3 a4
      exact absurd ⟨a1, by omega, a3, a4, f1.mp a5, by omega, by omega, by omega⟩ d2
  · obtain ⟨f1, f2, f3, f4, f5⟩ := h.sees h40 a1 (by omega)
    have f6 := f5 x2 a3 a4
    rcases Q with ⟨r1, r2, r3⟩ | ⟨r1, r2, r3⟩
    · exact absurd ⟨a1, by omega, a3, a4, f1.mpr a5, by omega, by omega, by omega⟩ r2
    · rw [show (100 * x1 + x2).toNat = 100 * x1.toNat + x2.toNat from by omega] at r3
      refine ⟨d1.trans r1.symm, _, d3, e53.trans h.1, h.2.put (by omega) (by omega) ?_ e8 e9 r3⟩
      rw [p_cn_in 100 (by omega), if_neg (show ¬ (1 : Int) = 0 by decide), if_pos a7]
      omega
theorem lx_wdrS (D : (vD = 0 ∧ ¬ (0 ≤ x1 ∧ x1 < ks.toInt ∧ 0 ≤ x2 ∧ x2 ≤ 99 ∧ op x1.toNat = 0 ∧ G x1.toNat x2.toNat ≠ 0) ∧ qH M1 Ls S R op la G) ∨ (vD = 1 ∧ (0 ≤ x1 ∧ x1 < ks.toInt ∧ 0 ≤ x2 ∧ x2 ≤ 99 ∧ op x1.toNat = 0 ∧ G x1.toNat x2.toNat ≠ 0) ∧ qH M1 Ls S R op la (p_gu G x1.toNat x2.toNat 0))) (Q : (vM = 0 ∧ ¬ (0 ≤ x1 ∧ x1 < rv M1 99 53 ∧ 0 ≤ x2 ∧ x2 ≤ 99 ∧ ra M1 99 59 x1.toNat = 0 ∧ ra M1 99 61 (100 * x1 + x2).toNat ≠ 0) ∧ ∀ i, ra M2 99 61 i = ra M1 99 61 i) ∨ (vM = 1 ∧ (0 ≤ x1 ∧ x1 < rv M1 99 53 ∧ 0 ≤ x2 ∧ x2 ≤ 99 ∧ ra M1 99 59 x1.toNat = 0 ∧ ra M1 99 61 (100 * x1 + x2).toNat ≠ 0) ∧ ∀ i, ra M2 99 61 i = if i = (100 * x1 + x2).toNat then 0 else ra M1 99 61 i)) (h : lx_SM M1 S op la G) (hk : ks.toInt = (S : Int)) (h40 : (S : Int) ≤ 40) (e8 : ∀ i, ra M2 99 58 i = ra M1 99 58 i) (e9 : ∀ i, ra M2 99 59 i = ra M1 99 59 i) (e53 : rv M2 99 53 = rv M1 99 53) : vD = vM ∧ ∃ G1 : Nat → Nat → Int, qH M1 Ls S R op la G1 ∧ lx_SM M2 S op la G1 := by
  have e3 := h.1
  rcases D with ⟨d1, d2, d3⟩ | ⟨d1, ⟨a1, a2, a3, a4, a5, a6⟩, d3⟩
  · rcases Q with ⟨r1, r2, r3⟩ | ⟨r1, ⟨a1, a2, a3, a4, a5, a6⟩, r3⟩
    · exact ⟨d1.trans r1.symm, G, d3, e53.trans h.1, h.2.same e8 e9 r3⟩
    · obtain ⟨f1, f2, f3, f4, f5⟩ := h.sees h40 a1 (by omega)
      have f6 := f5 x2 a3 a4
      exact absurd ⟨a1, by omega, a3, a4, f1.mp a5, by omega⟩ d2
  · obtain ⟨f1, f2, f3, f4, f5⟩ := h.sees h40 a1 (by omega)
    have f6 := f5 x2 a3 a4
    rcases Q with ⟨r1, r2, r3⟩ | ⟨r1, r2, r3⟩
    · exact absurd ⟨a1, by omega, a3, a4, f1.mpr a5, by omega⟩ r2
    · rw [show (100 * x1 + x2).toNat = 100 * x1.toNat + x2.toNat from by omega] at r3
      refine ⟨d1.trans r1.symm, _, d3, e53.trans h.1, h.2.put (by omega) (by omega) ?_ e8 e9 r3⟩
      rw [p_cn_in 100 (by omega), if_pos (show (0 : Int) = 0 from rfl), if_neg a6]
      omega
theorem lx_setS (q : qH M0 Ls S R op la G) (h0 : tm_W tm_FT T M0) (J : tm_I tm_FT W x T M0 n T1 M1 n1) (tL : T Ls = some (3, 11, 64)) (w4 : W 1104 = false) (w7 : W 1107 = false) (w10 : W 1110 = false) (w60 : W 1160 = false) (w11 : W 5011 = false) (D : (¬ (0 ≤ x1 ∧ x1 < ks.toInt ∧ op x1.toNat = 0 ∧ la x1.toNat < t0) ∧ M1 = M0) ∨ ((0 ≤ x1 ∧ x1 < ks.toInt ∧ op x1.toNat = 0 ∧ la x1.toNat < t0) ∧ ∃ (s : Nat) (z1 : Int32), tm_ge M0 Ls x1.toNat s ∧ tm_at M1 s 11 5 (.int z1) ∧ z1.toInt ≠ 0 ∧ ∀ (a : Nat) (w : Value), T a = some (0, 11, 0) → a ≠ s → tm_at M0 a 11 5 w → tm_at M1 a 11 5 w)) (Q : (¬ (0 ≤ x1 ∧ x1 < rv M1 99 53 ∧ ra M1 99 59 x1.toNat = 0 ∧ ra M1 99 58 x1.toNat < rv M1 99 1) ∧ ∀ i, ra M2 99 59 i = ra M1 99 59 i) ∨ ((0 ≤ x1 ∧ x1 < rv M1 99 53 ∧ ra M1 99 59 x1.toNat = 0 ∧ ra M1 99 58 x1.toNat < rv M1 99 1) ∧ ra M2 99 59 x1.toNat ≠ 0 ∧ ∀ i, i ≠ x1.toNat → ra M2 99 59 i = ra M1 99 59 i)) (h : lx_SM M1 S op la G) (hk : ks.toInt = (S : Int)) (ht : rv M1 99 1 = t0) (h40 : (S : Int) ≤ 40) (e8 : ∀ i, ra M2 99 58 i = ra M1 99 58 i) (e1 : ∀ i, ra M2 99 61 i = ra M1 99 61 i) (e53 : rv M2 99 53 = rv M1 99 53) : ∃ op1 : Nat → Int, qH M1 Ls S R op1 la G ∧ lx_SM M2 S op1 la G := by
  have e3 := h.1
  rcases D with ⟨d1, d2⟩ | ⟨⟨a1, a2, a3, a4⟩, s, z1, g, hz, hn, F⟩
  · rcases Q with ⟨r1, r2⟩ | ⟨⟨a1, a2, a3, a4⟩, r2⟩
    · refine ⟨op, ?_, e53.trans h.1, h.2.same e8 r2 e1⟩
      rw [d2]
      exact q
    · obtain ⟨f1, f2, -⟩ := h.sees h40 a1 (by omega)
      exact absurd ⟨a1, by omega, f1.mp a3, by omega⟩ d1
  · obtain ⟨f1, f2, -⟩ := h.sees h40 a1 (by omega)
    rcases Q with ⟨r1, r2⟩ | ⟨r1, r2, r3⟩
    · exact absurd ⟨a1, by omega, f1.mpr a3, by omega⟩ r1
    · exact ⟨_, q.close h0 J tL w4 w7 w10 w60 w11 (by omega) g hz hn F, e53.trans h.1, h.2.close r2 e8 r3 e1⟩
theorem lx_propS {G9 : Prop} (D : (vD = -1 ∧ ¬ G9 ∧ tm_at M1 Ls 0 2 (.int ks)) ∨ (G9 ∧ vD = ks.toInt ∧ ∃ k1 : Int32, tm_at M1 Ls 0 2 (.int k1) ∧ k1.toInt = ks.toInt + 1)) (FQ : G9 → ∃ (s R1 : Nat) (e : Int32), tm_ge M1 Ls ks.toNatClampNeg s ∧ tm_at M1 s 11 4 (.int e) ∧ e.toInt = t0 + p_told fr va t0 A 2 ∧ tm_at M1 s 11 5 (.int 0) ∧ tm_at M1 s 11 7 (.int 0) ∧ tm_at M1 s 11 10 (.ref R1) ∧ n ≤ R1 ∧ M1 R1 = some (.inl (2, 100, .inl (fun _ => 0)))) (hv : vD = vM) (P1 : vM = -1 → (∀ i, ra M2 99 58 i = ra M1 99 58 i) ∧ ∀ i, ra M2 99 59 i = ra M1 99 59 i) (P2 : vM ≠ -1 → (∀ i, ra M2 99 58 i = if i = (rv M1 99 53).toNat then rv M1 99 1 + p_tr M1 99 (rv M1 99 1) 2 else ra M1 99 58 i) ∧ ∀ i, ra M2 99 59 i = if i = (rv M1 99 53).toNat then 0 else ra M1 99 59 i) (e61 : ∀ i, ra M2 99 61 i = ra M1 99 61 i) (q : qH M1 Ls S R op la G) (hR : ∀ i : Nat, i < S → R i < n) (h : lx_SM M1 S op la G) (k : lx_AM M1 A fr va) (hk : ks.toInt = (S : Int)) (ht : rv M1 99 1 = t0) : ∃ (S1 : Nat) (R1 : Nat → Nat) (op1 la1 : Nat → Int), qH M1 Ls S1 R1 op1 la1 G ∧ aH M2 S1 op1 la1 G ∧ ∃ k1 : Int32, tm_at M1 Ls 0 2 (.int k1) ∧ k1.toInt = (S1 : Int) := by
  obtain ⟨h1, h2⟩ := h
  rcases D with ⟨d1, -, d3⟩ | ⟨d1, d2, k1, d3, d4⟩
  · obtain ⟨p1, p2⟩ := P1 (by omega)
    exact ⟨S, R, op, la, q, h2.same p1 p2 e61, ks, d3, hk⟩
  · obtain ⟨s, R1, e, g, q4, e4, q5, q7, q10, b, z⟩ := FQ d1
    obtain ⟨p1, p2⟩ := P2 (by omega)
    have ek : ks.toNatClampNeg = S := by
      have := mz_nat9 (i := ks) (by omega)
      omega
    rw [ek] at g
    rw [ht, p_tr_told (w := 2) k.2 k.1 (by decide), show (rv M1 99 53).toNat = S from by omega] at p1
    rw [show (rv M1 99 53).toNat = S from by omega] at p2
    have qq : qY M1 s R1 0 (t0 + p_told fr va t0 A 2) (G S) := ⟨e, 0, 0, q4, e4, q5, ⟨fun _ => rfl, fun _ => by decide⟩, q7, (show (0 : Int32).toInt = 0 from by decide).trans ((p_cn_cg (g := fun _ => 0) 100 (fun y _ => h2.2.2.1 S y (Nat.le_refl S))).trans p_cn_all).symm, q10, fun y _ => ((ra_of q10 z y).trans rfl).trans (h2.2.2.1 S y (Nat.le_refl S)).symm⟩
    exact ⟨S + 1, _, _, _, q.more g qq (fun i hi h9 => by have := hR i hi; omega), h2.more p1 p2 e61, k1, d3, by omega⟩
end LKT
