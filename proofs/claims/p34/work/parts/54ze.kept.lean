/-! THE FUNDS' ACCOUNTS: the same in both (p34; behind kra.hand.txt, whose lx_K is called lx_K1 here) -/
def lx_FD (T : tm_H) (M : mj_M) (F : Nat) (R : Nat → Nat) (G : Nat → Nat → Int) (C : Int) : Prop := ∃ (Lg : Nat) (kf kc : Int32), (T Lg = some (3, 6, 64) ∧ tm_at M 64 12 6 (.ref Lg)) ∧ (tm_at M Lg 0 2 (.int kf) ∧ kf.toInt = (F : Int)) ∧ qG M Lg F R G ∧ (tm_at M 64 12 11 (.int kc) ∧ kc.toInt = C)
def lx_FM (M : mj_M) (F : Nat) (G : Nat → Nat → Int) (C : Int) : Prop := rv M 99 32 = (F : Int) ∧ aG M F G ∧ rv M 99 70 = C
def lx_Fc (T : tm_H) (M : mj_M) : Prop := ∃ (F : Nat) (R : Nat → Nat) (G : Nat → Nat → Int) (C : Int), lx_FD T M F R G C ∧ lx_FM M F G C
def lx_K (T : tm_H) (M : mj_M) (n : Nat) (t : Int32) : Prop := lx_K1 T M n t ∧ lx_Fc T M
def lx_bF (k : Nat) : Bool := Nat.beq k 614 || Nat.beq k 664 || Nat.beq k 1206 || Nat.beq k 1211 || Nat.beq k 5006
def lx_bG (k : Nat) : Bool := Nat.beq k 1332 || Nat.beq k 1370 || Nat.beq k 1371 || Nat.beq k 20071
def lx_bO (k : Nat) : Bool := (lx_bL k || lx_bF k) || lx_bG k
section LKF
variable {W : Nat → Bool} {x n n1 Lf F : Nat} {T T1 : tm_H} {M M1 : mj_M} {t u t9 t1 : Int32} {R : Nat → Nat} {G : Nat → Nat → Int} {C : Int}
theorem lx_FD.keep (h : lx_I T M n Lf t u) (J : tm_I tm_FT W x T M n T1 M1 n1) (hW : ∀ k, lx_bF k = true → W k = false) (k : lx_FD T M F R G C) : lx_FD T1 M1 F R G C := by
  obtain ⟨Lg, kf, kc, ⟨h1, h2⟩, ⟨h3, h4⟩, h5, ⟨h6, h7⟩⟩ := k
  exact ⟨Lg, kf, kc, ⟨J.up h1, J.keep h.2.1 (hW 1206 rfl) h2⟩, ⟨J.keepL h1 (hW 5006 rfl) h3, h4⟩, h5.keep h.1.1 J h1 (hW 614 rfl) (hW 664 rfl) (hW 5006 rfl), ⟨J.keep h.2.1 (hW 1211 rfl) h6, h7⟩⟩
theorem lx_FM.keep (h : lx_I T M n Lf t u) (J : tm_I tm_FT W x T M n T1 M1 n1) (hW : ∀ k, lx_bG k = true → W k = false) (k : lx_FM M F G C) : lx_FM M1 F G C := by
  obtain ⟨h1, h2, h3⟩ := k
  exact ⟨(rv_c h.1 J h.2.2.1 (k := 32) (hW 1332 rfl)).trans h1, h2.same (fun i => ra_call h.1 J h.2.2.1 (k := 71) rfl (hW 1371 rfl) (hW 20071 rfl) i), (rv_c h.1 J h.2.2.1 (k := 70) (hW 1370 rfl)).trans h3⟩
theorem lx_bOL (hW : ∀ k, lx_bO k = true → W k = false) : ∀ k, lx_bL k = true → W k = false := fun k hk => hW k (by unfold lx_bO; rw [hk]; rfl)
theorem lx_bOF (hW : ∀ k, lx_bO k = true → W k = false) : ∀ k, lx_bF k = true → W k = false := fun k hk => hW k (by unfold lx_bO; rw [hk, Bool.or_true]; rfl)
theorem lx_bOG (hW : ∀ k, lx_bO k = true → W k = false) : ∀ k, lx_bG k = true → W k = false := fun k hk => hW k (by unfold lx_bO; rw [hk, Bool.or_true])
theorem lx_Kkeep (h : lx_I T M n Lf t u) (J : tm_I tm_FT W x T M n T1 M1 n1) (hW : ∀ k, lx_bO k = true → W k = false) (k : lx_K T M n t9) : lx_K T1 M1 n1 t9 := by
  obtain ⟨k0, F, R, G, C, k1, k2⟩ := k
  exact ⟨lx_K1keep h J (lx_bOL hW) k0, F, R, G, C, k1.keep h J (lx_bOF hW), k2.keep h J (lx_bOG hW)⟩
theorem lx_Kt (_ : t.toInt ≤ t1.toInt) (k : lx_K T M n t) : lx_K T M n t1 := k
end LKF
/-- a number told lies between 0 and 720 -/
theorem sc_r {M : mj_M} {o b w : Nat} {v : Int} (h0 : 0 ≤ v ∧ v ≤ 720) : ∀ c : Nat, (∀ k : Nat, k < c → 0 ≤ ra M o 8 (b + k) ∧ ra M o 8 (b + k) ≤ 720) → 0 ≤ sc M o b c w v ∧ sc M o b c w v ≤ 720
  | 0, _ => h0
  | c + 1, h => by
    have h1 := sc_r (w := w) h0 c (fun k hk => h k (Nat.lt_succ_of_lt hk))
    show 0 ≤ (if ra M o 7 (b + c) = (w : Int) then ra M o 8 (b + c) else sc M o b c w v) ∧ (if ra M o 7 (b + c) = (w : Int) then ra M o 8 (b + c) else sc M o b c w v) ≤ 720
    by_cases e : ra M o 7 (b + c) = (w : Int)
    · rw [if_pos e]
      exact h c (Nat.lt_succ_self c)
    · rw [if_neg e]
      exact h1
theorem p_dv_9 : ∀ w : Nat, 0 ≤ p_dv w ∧ p_dv w ≤ 720
  | 0 => by decide
  | 1 => by decide
  | 2 => by decide
  | 3 => by decide
  | 4 => by decide
  | _ + 5 => show (0 : Int) ≤ 20 ∧ (20 : Int) ≤ 720 from by decide
theorem p_told_r {M : mj_M} {A : Nat} {fr : Nat → Int} {va : Nat → Nat → Int} (R : rI M 99) (y8 : ∀ i : Nat, i < 880 → 0 ≤ ra M 99 8 i) (k : lx_AM M A fr va) {w : Nat} (hw : w < 6) (day : Int) : 0 ≤ p_told fr va day A w ∧ p_told fr va day A w ≤ 720 := by
  have e27 := k.1
  have r27 := R.1 27 _ _ rfl
  have ro := p_on_r (fr := fr) (day := day) A
  unfold p_told
  by_cases h9 : p_on fr day A = -1
  · rw [if_pos h9]
    exact p_dv_9 w
  · rw [if_neg h9]
    have hA : ((p_on fr day A).toNat : Int) < (A : Int) := by omega
    rw [← (k.2 _ hA).2 w hw]
    refine sc_r (p_dv_9 w) _ (fun q hq => ?_)
    have r6 := R.2 6 _ _ rfl (p_on fr day A).toNat
    exact ⟨y8 _ (by omega), (R.2 8 _ _ rfl _).2⟩
/-- a fund is told: both have it, or neither -/
theorem lx_fundF {Lg Rd F pn n : Nat} {b : Nat → Int} {R : Nat → Nat} {G : Nat → Nat → Int} {vD vM x1 x2 : Int} {k vp0 : Int32} {M1 M2 : mj_M} (D : (vD = -1 ∧ ¬ (0 ≤ x1 ∧ x1 ≤ 999 ∧ 0 ≤ x2 ∧ x2 ≤ 99999 ∧ k.toInt < 12) ∧ qB M1 Rd b pn ∧ tm_at M1 Rd 9 2 (.int vp0) ∧ tm_at M1 Lg 0 2 (.int k)) ∨ ((0 ≤ x1 ∧ x1 ≤ 999 ∧ 0 ≤ x2 ∧ x2 ≤ 99999 ∧ k.toInt < 12) ∧ tm_at M1 Rd 9 0 (.int 0) ∧ ∃ vp k1 : Int32, tm_at M1 Rd 9 2 (.int vp) ∧ tm_at M1 Lg 0 2 (.int k1) ∧ ((p_dee b pn).2.2.1 = 0 ∧ vD = k.toInt ∧ vp.toInt = -1 ∧ k1.toInt = k.toInt + 1 ∨ (p_dee b pn).2.2.1 ≠ 0 ∧ vD = -1 - (p_dee b pn).2.2.1 ∧ vp.toInt = ((p_dee b pn).2.2.2.1 : Int) ∧ k1.toInt = k.toInt))) (Q : (vM = -1 ∧ ¬ (0 ≤ x1 ∧ x1 ≤ 999 ∧ 0 ≤ x2 ∧ x2 ≤ 99999 ∧ rv M1 99 32 ≠ 12) ∧ rv M2 99 14 = rv M1 99 14 ∧ rv M2 99 21 = rv M1 99 21 ∧ rv M2 99 32 = rv M1 99 32) ∨ ((0 ≤ x1 ∧ x1 ≤ 999 ∧ 0 ≤ x2 ∧ x2 ≤ 99999 ∧ rv M1 99 32 ≠ 12) ∧ rv M2 99 14 = 0 ∧ (((p_dee b pn).2.2.1 = 0 ∧ vM = rv M1 99 32 ∧ rv M2 99 21 = -1 ∧ rv M2 99 32 = rv M1 99 32 + 1) ∨ ((p_dee b pn).2.2.1 ≠ 0 ∧ vM = -1 - (p_dee b pn).2.2.1 ∧ rv M2 99 21 = ((p_dee b pn).2.2.2.1 : Int) ∧ rv M2 99 32 = rv M1 99 32)))) (q1 : qG M1 Lg F R G) (FQ : (0 ≤ x1 ∧ x1 ≤ 999 ∧ 0 ≤ x2 ∧ x2 ≤ 99999 ∧ k.toInt < 12) → (p_dee b pn).2.2.1 = 0 → ∃ f R1 : Nat, tm_ge M1 Lg k.toNatClampNeg f ∧ tm_at M1 f 6 14 (.ref R1) ∧ n ≤ R1 ∧ M1 R1 = some (.inl (2, 101, .inl (fun _ => 0)))) (hR : ∀ i : Nat, i < F → R i < n) (a2 : aG M2 F G) (hk : k.toInt = (F : Int)) (h32 : rv M1 99 32 = (F : Int)) (h12 : (F : Int) ≤ 12) : ∃ (F1 : Nat) (R1 : Nat → Nat) (k1 : Int32), tm_at M1 Lg 0 2 (.int k1) ∧ k1.toInt = (F1 : Int) ∧ qG M1 Lg F1 R1 G ∧ rv M2 99 32 = (F1 : Int) ∧ aG M2 F1 G := by
  rcases D with ⟨-, d2, -, -, d5⟩ | ⟨d1, -, vp, k1, -, d4, d5⟩
  · have e : rv M2 99 32 = rv M1 99 32 := by
      rcases Q with ⟨-, -, -, -, r5⟩ | ⟨r1, -⟩
      · exact r5
      · exact absurd ⟨r1.1, r1.2.1, r1.2.2.1, r1.2.2.2.1, by omega⟩ d2
    exact ⟨F, R, k, d5, hk, q1, e.trans h32, a2⟩
  · rcases d5 with ⟨p0, -, -, d6⟩ | ⟨p0, -, -, d6⟩
    · have e : rv M2 99 32 = (F : Int) + 1 := by
        rcases Q with ⟨-, r2, -⟩ | ⟨-, -, ⟨-, -, -, r5⟩ | ⟨r6, -⟩⟩
        · exact absurd ⟨d1.1, d1.2.1, d1.2.2.1, d1.2.2.2.1, by omega⟩ r2
        · omega
        · exact absurd p0 r6
      obtain ⟨f, R1, g, h4, h5, h6⟩ := FQ d1 p0
      have ek : k.toNatClampNeg = F := by
        have := mz_nat9 (i := k) (by omega)
        omega
      rw [ek] at g
      exact ⟨F + 1, _, k1, d4, by omega, q1.more g h4 (fun y _ => (ra_of h4 h6 y).trans rfl) (fun y => a2.2 F y (Nat.le_refl F)) (fun i hi h9 => by have := hR i hi; omega), by omega, a2.mono (Nat.le_succ F)⟩
    · have e : rv M2 99 32 = rv M1 99 32 := by
        rcases Q with ⟨-, -, -, -, r5⟩ | ⟨-, -, ⟨r6, -⟩ | ⟨-, -, -, r5⟩⟩
        · exact r5
        · exact absurd r6 p0
        · exact r5
      exact ⟨F, R, k1, d4, by omega, q1, e.trans h32, a2⟩
/-- an account is asked for -/
theorem lx_accF {Lg F A : Nat} {R : Nat → Nat} {G : Nat → Nat → Int} {fr : Nat → Int} {va : Nat → Nat → Int} {vD vM x1 x2 t0 : Int} {kf kc : Int32} {M1 M2 : mj_M} (D : (vD = -1 ∧ ¬ (0 ≤ x1 ∧ x1 < kf.toInt ∧ 0 ≤ x2 ∧ x2 ≤ 100 ∧ 360 * (x2 + 1) ≤ t0 ∧ G x1.toNat x2.toNat = 0 ∧ kc.toInt < 200) ∧ tm_at M1 64 12 11 (.int kc) ∧ qG M1 Lg F R G) ∨ ((0 ≤ x1 ∧ x1 < kf.toInt ∧ 0 ≤ x2 ∧ x2 ≤ 100 ∧ 360 * (x2 + 1) ≤ t0 ∧ G x1.toNat x2.toNat = 0 ∧ kc.toInt < 200) ∧ (∃ c1 : Int32, tm_at M1 64 12 11 (.int c1) ∧ c1.toInt = kc.toInt + 1) ∧ qG M1 Lg F R (p_gv G x1.toNat x2.toNat) ∧ ((vD = 0 ∧ (t0 - (360 * x2 + 359) - p_told fr va (360 * x2 + 359) A 3) ≤ 0) ∨ (vD = (t0 - (360 * x2 + 359) - p_told fr va (360 * x2 + 359) A 3) ∧ 0 < (t0 - (360 * x2 + 359) - p_told fr va (360 * x2 + 359) A 3))))) (Q : (vM = -1 ∧ ¬ (0 ≤ x1 ∧ x1 < rv M1 99 32 ∧ 0 ≤ x2 ∧ x2 ≤ 100 ∧ 360 * (x2 + 1) ≤ rv M1 99 1 ∧ ra M1 99 71 (101 * x1 + x2).toNat = 0 ∧ rv M1 99 70 ≠ 200) ∧ rv M2 99 70 = rv M1 99 70 ∧ ∀ i, ra M2 99 71 i = ra M1 99 71 i) ∨ ((0 ≤ x1 ∧ x1 < rv M1 99 32 ∧ 0 ≤ x2 ∧ x2 ≤ 100 ∧ 360 * (x2 + 1) ≤ rv M1 99 1 ∧ ra M1 99 71 (101 * x1 + x2).toNat = 0 ∧ rv M1 99 70 ≠ 200) ∧ rv M2 99 70 = rv M1 99 70 + 1 ∧ (∀ i, ra M2 99 71 i = if i = (101 * x1 + x2).toNat then 1 else ra M1 99 71 i) ∧ ((vM = 0 ∧ (rv M1 99 1 - (360 * x2 + 359) - p_tr M1 99 (360 * x2 + 359) 3) ≤ 0) ∨ (vM = (rv M1 99 1 - (360 * x2 + 359) - p_tr M1 99 (360 * x2 + 359) 3) ∧ 0 < (rv M1 99 1 - (360 * x2 + 359) - p_tr M1 99 (360 * x2 + 359) 3))))) (k : lx_AM M1 A fr va) (hf : kf.toInt = (F : Int)) (h : lx_FM M1 F G kc.toInt) (ht : rv M1 99 1 = t0) (h12 : (F : Int) ≤ 12) (hC : kc.toInt ≤ 200) : vD = vM ∧ ∃ (G1 : Nat → Nat → Int) (c1 : Int32), tm_at M1 64 12 11 (.int c1) ∧ qG M1 Lg F R G1 ∧ rv M2 99 70 = c1.toInt ∧ aG M2 F G1 := by
  obtain ⟨h1, h2, h3⟩ := h
  rw [p_tr_told (w := 3) k.2 k.1 (by decide)] at Q
  have eG : 0 ≤ x1 → x1 < (F : Int) → 0 ≤ x2 → x2 ≤ 100 → ra M1 99 71 (101 * x1 + x2).toNat = G x1.toNat x2.toNat := fun a1 a2 a3 a4 => by
    rw [show (101 * x1 + x2).toNat = 101 * x1.toNat + x2.toNat from by omega]
    exact h2.1 _ _ (by omega) (by omega)
  rcases D with ⟨d1, d2, d3, d4⟩ | ⟨⟨a1, a2, a3, a4, a5, a6, a7⟩, ⟨c1, d2, d3⟩, d4, d5⟩
  · rcases Q with ⟨r1, r2, r3, r4⟩ | ⟨⟨a1, a2, a3, a4, a5, a6, a7⟩, -⟩
    · exact ⟨d1.trans r1.symm, G, kc, d3, d4, by omega, h2.same r4⟩
    · exact absurd ⟨a1, by omega, a3, a4, by omega, (eG a1 (by omega) a3 a4).symm.trans a6, by omega⟩ d2
  · rcases Q with ⟨r1, r2, -⟩ | ⟨-, r2, r3, r4⟩
    · exact absurd ⟨a1, by omega, a3, a4, by omega, (eG a1 (by omega) a3 a4).trans a6, by omega⟩ r2
    · rw [show (101 * x1 + x2).toNat = 101 * x1.toNat + x2.toNat from by omega] at r3
      exact ⟨by omega, _, c1, d2, d4, by omega, h2.put (by omega) (by omega) r3⟩
