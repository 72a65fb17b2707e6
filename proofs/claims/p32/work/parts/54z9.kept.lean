/-! THE TAPE, AND HOW MANY TEXTS AND SCHEMES THERE ARE: the same in both -/
def lx_L (T : tm_H) (M : mj_M) (s c L : Nat) (k : Int32) (A : Int) : Prop := T L = some (3, c, 64) ∧ tm_at M 64 12 s (.ref L) ∧ tm_at M L 0 2 (.int k) ∧ k.toInt = A
def lx_KD (T : tm_H) (M : mj_M) (b : Nat → Int) (n : Nat) (P A F N S : Int) : Prop := ∃ (Rd La Lg Ln Ls : Nat) (vp ka kf kn ks : Int32), (T Rd = some (0, 9, 0) ∧ tm_at M 64 12 1 (.ref Rd)) ∧ qB M Rd b n ∧ (tm_at M Rd 9 2 (.int vp) ∧ vp.toInt = P) ∧ lx_L T M 5 1 La ka A ∧ lx_L T M 6 6 Lg kf F ∧ lx_L T M 7 8 Ln kn N ∧ lx_L T M 8 11 Ls ks S
def lx_KM (M : mj_M) (b : Nat → Int) (n : Nat) (P A F N S : Int) : Prop := pX M 99 b n ∧ rv M 99 21 = P ∧ rv M 99 27 = A ∧ rv M 99 32 = F ∧ rv M 99 49 = N ∧ rv M 99 53 = S
def lx_K (T : tm_H) (M : mj_M) (_n : Nat) (_t : Int32) : Prop := ∃ (b : Nat → Int) (n : Nat) (P A F N S : Int), lx_KD T M b n P A F N S ∧ lx_KM M b n P A F N S
def lx_bD (k : Nat) : Bool := Nat.beq k 900 || Nat.beq k 902 || Nat.beq k 903 || Nat.beq k 953 || Nat.beq k 1201 || (Nat.ble 1205 k && Nat.ble k 1208) || Nat.beq k 5001 || Nat.beq k 5006 || Nat.beq k 5008 || Nat.beq k 5011
def lx_bM (k : Nat) : Bool := Nat.beq k 1313 || Nat.beq k 20013 || Nat.beq k 1314 || Nat.beq k 1321 || Nat.beq k 1327 || Nat.beq k 1332 || Nat.beq k 1349 || Nat.beq k 1353
def lx_bK (k : Nat) : Bool := lx_bD k || lx_bM k
section LK
variable {W : Nat → Bool} {x n n1 Lf s c L pn : Nat} {T T1 : tm_H} {M M1 : mj_M} {t u t9 t1 v : Int32} {b : Nat → Int} {P A F N S : Int}
theorem lx_L.keep (h : lx_I T M n Lf t u) (J : tm_I tm_FT W x T M n T1 M1 n1) (w1 : W (1200 + s) = false) (w2 : W (5000 + c) = false) (k : lx_L T M s c L v A) : lx_L T1 M1 s c L v A := by
  obtain ⟨h1, h2, h3, h4⟩ := k
  exact ⟨J.up h1, J.keep h.2.1 w1 h2, J.keepL h1 w2 h3, h4⟩
theorem lx_KD.keep (h : lx_I T M n Lf t u) (J : tm_I tm_FT W x T M n T1 M1 n1) (hW : ∀ k, lx_bD k = true → W k = false) (k : lx_KD T M b pn P A F N S) : lx_KD T1 M1 b pn P A F N S := by
  obtain ⟨Rd, La, Lg, Ln, Ls, vp, ka, kf, kn, ks, ⟨h1, h2⟩, h3, ⟨h4, h5⟩, h6, h7, h8, h9⟩ := k
  exact ⟨Rd, La, Lg, Ln, Ls, vp, ka, kf, kn, ks, ⟨J.up h1, J.keep h.2.1 (hW 1201 rfl) h2⟩, h3.keep h.1.1 J h1 (hW 900 rfl) (hW 903 rfl) (hW 953 rfl), ⟨J.keep h1 (hW 902 rfl) h4, h5⟩, h6.keep h J (hW 1205 rfl) (hW 5001 rfl), h7.keep h J (hW 1206 rfl) (hW 5006 rfl), h8.keep h J (hW 1207 rfl) (hW 5008 rfl), h9.keep h J (hW 1208 rfl) (hW 5011 rfl)⟩
theorem lx_X (h : lx_I T M n Lf t u) (J : tm_I tm_FT W x T M n T1 M1 n1) (w1 : W 1313 = false) (w2 : W 20013 = false) (w3 : W 1314 = false) (k : pX M 99 b pn) : pX M1 99 b pn :=
  ⟨(rv_c h.1 J h.2.2.1 (k := 14) w3).trans k.1, k.2.1, k.2.2.1, fun i hi => (ra_call h.1 J h.2.2.1 (k := 13) rfl w1 w2 i).trans (k.2.2.2 i hi)⟩
theorem lx_KM.keep (h : lx_I T M n Lf t u) (J : tm_I tm_FT W x T M n T1 M1 n1) (hW : ∀ k, lx_bM k = true → W k = false) (k : lx_KM M b pn P A F N S) : lx_KM M1 b pn P A F N S := by
  obtain ⟨h1, h2, h3, h4, h5, h6⟩ := k
  exact ⟨lx_X h J (hW 1313 rfl) (hW 20013 rfl) (hW 1314 rfl) h1, (rv_c h.1 J h.2.2.1 (k := 21) (hW 1321 rfl)).trans h2, (rv_c h.1 J h.2.2.1 (k := 27) (hW 1327 rfl)).trans h3, (rv_c h.1 J h.2.2.1 (k := 32) (hW 1332 rfl)).trans h4, (rv_c h.1 J h.2.2.1 (k := 49) (hW 1349 rfl)).trans h5, (rv_c h.1 J h.2.2.1 (k := 53) (hW 1353 rfl)).trans h6⟩
theorem lx_bKD (hW : ∀ k, lx_bK k = true → W k = false) : ∀ k, lx_bD k = true → W k = false := fun k hk => hW k (by unfold lx_bK; rw [hk]; rfl)
theorem lx_bKM (hW : ∀ k, lx_bK k = true → W k = false) : ∀ k, lx_bM k = true → W k = false := fun k hk => hW k (by unfold lx_bK; rw [hk, Bool.or_true])
theorem lx_Kkeep (h : lx_I T M n Lf t u) (J : tm_I tm_FT W x T M n T1 M1 n1) (hW : ∀ k, lx_bK k = true → W k = false) (k : lx_K T M n t9) : lx_K T1 M1 n1 t9 := by
  obtain ⟨b, pn, P, A, F, N, S, k1, k2⟩ := k
  exact ⟨b, pn, P, A, F, N, S, k1.keep h J (lx_bKD hW), k2.keep h J (lx_bKM hW)⟩
theorem lx_Kt (_ : t.toInt ≤ t1.toInt) (k : lx_K T M n t) : lx_K T M n t1 := k
end LK
/-- a text is read by both: what they answer, and what they leave -/
theorem lx_text {Rd L cf : Nat} {b : Nat → Int} {pn A1 : Nat} {vD vM A0 val val2 : Int} {k vp0 : Int32} {G G2 : Prop} {M1 M2 : mj_M} (hb : ∀ i, 0 ≤ b i ∧ b i ≤ 255) (D : (vD = -1 ∧ ¬ G ∧ qB M1 Rd b pn ∧ tm_at M1 Rd 9 2 (.int vp0) ∧ tm_at M1 L 0 2 (.int k)) ∨ (G ∧ tm_at M1 Rd 9 0 (.int 0) ∧ ∃ vp k1 : Int32, tm_at M1 Rd 9 2 (.int vp) ∧ tm_at M1 L 0 2 (.int k1) ∧ (A0 = 0 ∧ vD = val ∧ vp.toInt = -1 ∧ k1.toInt = k.toInt + 1 ∨ A0 ≠ 0 ∧ vD = -1 - A0 ∧ vp.toInt = (A1 : Int) ∧ k1.toInt = k.toInt))) (R : (vM = -1 ∧ ¬ G2 ∧ rv M2 99 14 = rv M1 99 14 ∧ rv M2 99 21 = rv M1 99 21 ∧ rv M2 99 cf = rv M1 99 cf) ∨ (G2 ∧ rv M2 99 14 = 0 ∧ ((A0 = 0 ∧ vM = val2 ∧ rv M2 99 21 = -1 ∧ rv M2 99 cf = rv M1 99 cf + 1) ∨ (A0 ≠ 0 ∧ vM = -1 - A0 ∧ rv M2 99 21 = (A1 : Int) ∧ rv M2 99 cf = rv M1 99 cf)))) (hG : G ↔ G2) (hv : val = val2) (hX : pX M1 99 b pn) (hR : rv M1 99 21 = vp0.toInt) (hk : rv M1 99 cf = k.toInt) (ha : ∀ i, ra M2 99 13 i = ra M1 99 13 i) : vD = vM ∧ ∃ (pn1 : Nat) (vp1 k1 : Int32), qB M1 Rd b pn1 ∧ tm_at M1 Rd 9 2 (.int vp1) ∧ tm_at M1 L 0 2 (.int k1) ∧ pX M2 99 b pn1 ∧ rv M2 99 21 = vp1.toInt ∧ rv M2 99 cf = k1.toInt := by
  rcases D with ⟨d1, d2, d3, d4, d5⟩ | ⟨d1, d2, vp, k1, d3, d4, d5⟩
  · rcases R with ⟨r1, r2, r3, r4, r5⟩ | ⟨r1, -⟩
    · exact ⟨by omega, pn, vp0, k, d3, d4, d5, ⟨r3.trans hX.1, hX.2.1, hX.2.2.1, fun i hi => (ha i).trans (hX.2.2.2 i hi)⟩, by omega, by omega⟩
    · exact absurd (hG.mpr r1) d2
  · rcases R with ⟨-, r2, -⟩ | ⟨r1, r2, r3⟩
    · exact absurd (hG.mp d1) r2
    · have hB0 : qB M1 Rd b 0 := ⟨(tm_rv d2).trans (by decide), by decide, hb, fun i hi => absurd hi (Nat.not_lt_zero i)⟩
      have hX0 : pX M2 99 b 0 := ⟨r2, by decide, hb, fun i hi => absurd hi (Nat.not_lt_zero i)⟩
      rcases d5 with ⟨a1, a2, a3, a4⟩ | ⟨a1, a2, a3, a4⟩
      · rcases r3 with ⟨c1, c2, c3, c4⟩ | ⟨c1, -⟩
        · exact ⟨by omega, 0, vp, k1, hB0, d3, d4, hX0, by omega, by omega⟩
        · exact absurd a1 c1
      · rcases r3 with ⟨c1, -⟩ | ⟨c1, c2, c3, c4⟩
        · exact absurd c1 a1
        · exact ⟨by omega, 0, vp, k1, hB0, d3, d4, hX0, by omega, by omega⟩
theorem lx_feed {Rd pn : Nat} {b b2 : Nat → Int} {vD vM : Int} {M1 M2 : mj_M} (D : vD = -1 ∧ 380 < pn ∧ qB M1 Rd b pn ∨ vD = (pn : Int) + 20 ∧ pn ≤ 380 ∧ qB M1 Rd b2 (pn + 20)) (R : vM = -1 ∧ 380 < pn ∧ pX M2 99 b pn ∨ vM = (pn : Int) + 20 ∧ pn ≤ 380 ∧ pX M2 99 b2 (pn + 20)) : vD = vM ∧ ∃ (b1 : Nat → Int) (pn1 : Nat), qB M1 Rd b1 pn1 ∧ pX M2 99 b1 pn1 := by
  rcases D with ⟨d1, d2, d3⟩ | ⟨d1, d2, d3⟩ <;> rcases R with ⟨r1, r2, r3⟩ | ⟨r1, r2, r3⟩
  · exact ⟨by omega, b, pn, d3, r3⟩
  · omega
  · omega
  · exact ⟨by omega, b2, pn + 20, d3, r3⟩
theorem lx_end {Rd pn : Nat} {b : Nat → Int} {vD vM X : Int} {z0 x1 : Int32} {M1 M2 : mj_M} (hX1 : x1.toInt = X) (h9 : pn ≤ 400) (hr : ∀ i, 0 ≤ b i ∧ b i ≤ 255) (hz : z0.toInt = (pn : Int)) (h3 : ∀ i : Nat, i < pn → ra M1 Rd 3 i = b i) (D : vD = -1 ∧ ¬ (0 ≤ X ∧ X ≤ (pn : Int)) ∧ tm_at M1 Rd 9 0 (.int z0) ∨ vD = X ∧ (0 ≤ X ∧ X ≤ (pn : Int)) ∧ tm_at M1 Rd 9 0 (.int x1)) (R : vM = -1 ∧ ¬ (0 ≤ X ∧ X ≤ rv M1 99 14) ∧ rv M2 99 14 = rv M1 99 14 ∨ vM = X ∧ (0 ≤ X ∧ X ≤ rv M1 99 14) ∧ rv M2 99 14 = X) (hX : pX M1 99 b pn) (ha : ∀ i, ra M2 99 13 i = ra M1 99 13 i) : vD = vM ∧ ∃ pn1 : Nat, qB M1 Rd b pn1 ∧ pX M2 99 b pn1 := by
  have h14 := hX.1
  rcases D with ⟨d1, d2, d3⟩ | ⟨d1, d2, d3⟩ <;> rcases R with ⟨r1, r2, r3⟩ | ⟨r1, r2, r3⟩
  · exact ⟨by omega, pn, ⟨(tm_rv d3).trans hz, h9, hr, h3⟩, r3.trans h14, hX.2.1, hr, fun i hi => (ha i).trans (hX.2.2.2 i hi)⟩
  · omega
  · omega
  · have e : (X.toNat : Int) = X := by omega
    exact ⟨by omega, X.toNat, ⟨(tm_rv d3).trans (by omega), by omega, hr, fun i hi => h3 i (by omega)⟩, r3.trans e.symm, by omega, hr, fun i hi => (ha i).trans (hX.2.2.2 i (by omega))⟩
theorem lx_prop {L : Nat} {vD vM : Int} {k : Int32} {G G2 : Prop} {M1 M2 : mj_M} (D : (vD = -1 ∧ ¬ G ∧ tm_at M1 L 0 2 (.int k)) ∨ (G ∧ vD = k.toInt ∧ ∃ k1 : Int32, tm_at M1 L 0 2 (.int k1) ∧ k1.toInt = k.toInt + 1)) (R : (vM = -1 ∧ ¬ G2 ∧ rv M2 99 53 = rv M1 99 53) ∨ (G2 ∧ vM = rv M1 99 53 ∧ rv M2 99 53 = rv M1 99 53 + 1)) (hG : G ↔ G2) (hk : rv M1 99 53 = k.toInt) : vD = vM ∧ ∃ k1 : Int32, tm_at M1 L 0 2 (.int k1) ∧ rv M2 99 53 = k1.toInt := by
  rcases D with ⟨d1, d2, d3⟩ | ⟨d1, d2, k1, d3, d4⟩
  · rcases R with ⟨r1, r2, r3⟩ | ⟨r1, -⟩
    · exact ⟨by omega, k, d3, by omega⟩
    · exact absurd (hG.mpr r1) d2
  · rcases R with ⟨-, r2, -⟩ | ⟨r1, r2, r3⟩
    · exact absurd (hG.mp d1) r2
    · exact ⟨by omega, k1, d3, by omega⟩
