/-! THE ACTS TOLD: the same in both (behind 54z9, whose lx_K1 is called lx_K0 here) -/
def lx_AD (T : tm_H) (M : mj_M) (A : Nat) (fr : Nat → Int) (va : Nat → Nat → Int) : Prop := ∃ (La NR : Nat) (ka : Int32), (T La = some (3, 1, 64) ∧ tm_at M 64 12 5 (.ref La)) ∧ (tm_at M La 0 2 (.int ka) ∧ ka.toInt = (A : Int)) ∧ (T NR = some (0, 1, 0) ∧ tm_at M 64 12 4 (.ref NR)) ∧ qT M La NR A fr va ∧ ∀ i : Nat, i < A → 0 ≤ fr i
def lx_AM (M : mj_M) (A : Nat) (fr : Nat → Int) (va : Nat → Nat → Int) : Prop := rv M 99 27 = (A : Int) ∧ aA M 99 (A : Int) fr va
def lx_Ac (T : tm_H) (M : mj_M) : Prop := ∃ (A : Nat) (fr : Nat → Int) (va : Nat → Nat → Int), lx_AD T M A fr va ∧ lx_AM M A fr va
def lx_K1 (T : tm_H) (M : mj_M) (n : Nat) (t : Int32) : Prop := lx_K0 T M n t ∧ lx_Ac T M
def lx_bA (k : Nat) : Bool := Nat.beq k 100 || Nat.beq k 103 || Nat.beq k 153 || Nat.beq k 1204 || Nat.beq k 1205 || Nat.beq k 5001
def lx_bN (k : Nat) : Bool := Nat.beq k 1327 || Nat.beq k 1306 || Nat.beq k 20006 || Nat.beq k 1307 || Nat.beq k 20007 || Nat.beq k 1308 || Nat.beq k 20008 || Nat.beq k 1328 || Nat.beq k 20028
def lx_bL (k : Nat) : Bool := (lx_bK k || lx_bA k) || lx_bN k
section LKA
variable {W : Nat → Bool} {x n n1 Lf A : Nat} {T T1 : tm_H} {M M1 : mj_M} {t u t9 t1 : Int32} {fr : Nat → Int} {va : Nat → Nat → Int}
theorem lx_AD.keep (h : lx_I T M n Lf t u) (J : tm_I tm_FT W x T M n T1 M1 n1) (hW : ∀ k, lx_bA k = true → W k = false) (k : lx_AD T M A fr va) : lx_AD T1 M1 A fr va := by
  obtain ⟨La, NR, ka, ⟨h1, h2⟩, ⟨h3, h4⟩, ⟨h5, h6⟩, h7, h8⟩ := k
  exact ⟨La, NR, ka, ⟨J.up h1, J.keep h.2.1 (hW 1205 rfl) h2⟩, ⟨J.keepL h1 (hW 5001 rfl) h3, h4⟩, ⟨J.up h5, J.keep h.2.1 (hW 1204 rfl) h6⟩, h7.keep h.1.1 J h5 h1 (hW 100 rfl) (hW 103 rfl) (hW 153 rfl) (hW 5001 rfl), h8⟩
theorem lx_AM.keep (h : lx_I T M n Lf t u) (J : tm_I tm_FT W x T M n T1 M1 n1) (hW : ∀ k, lx_bN k = true → W k = false) (k : lx_AM M A fr va) : lx_AM M1 A fr va := by
  obtain ⟨h1, h2⟩ := k
  have hs : sA [6, 7, 8, 28] M M1 99 := fun j hj => by
    have hm : j ∈ [6, 7, 8, 28] := by simpa using hj
    simp only [List.mem_cons, List.not_mem_nil, or_false] at hm
    rcases hm with rfl | rfl | rfl | rfl
    · exact funext fun i => ra_call h.1 J h.2.2.1 (k := 6) rfl (hW 1306 rfl) (hW 20006 rfl) i
    · exact funext fun i => ra_call h.1 J h.2.2.1 (k := 7) rfl (hW 1307 rfl) (hW 20007 rfl) i
    · exact funext fun i => ra_call h.1 J h.2.2.1 (k := 8) rfl (hW 1308 rfl) (hW 20008 rfl) i
    · exact funext fun i => ra_call h.1 J h.2.2.1 (k := 28) rfl (hW 1328 rfl) (hW 20028 rfl) i
  exact ⟨(rv_c h.1 J h.2.2.1 (k := 27) (hW 1327 rfl)).trans h1, h2.same hs⟩
theorem lx_AM.y (k : lx_AM M A fr va) : aA M 99 (rv M 99 27) fr va := by
  rw [k.1]
  exact k.2
theorem lx_AM.more (k : lx_AM M A fr va) (e : rv M1 99 27 = rv M 99 27) (a : aA M1 99 (rv M 99 27) fr va) : lx_AM M1 A fr va := by
  rw [k.1] at a
  exact ⟨e.trans k.1, a⟩
theorem lx_bLK (hW : ∀ k, lx_bL k = true → W k = false) : ∀ k, lx_bK k = true → W k = false := fun k hk => hW k (by unfold lx_bL; rw [hk]; rfl)
theorem lx_bLA (hW : ∀ k, lx_bL k = true → W k = false) : ∀ k, lx_bA k = true → W k = false := fun k hk => hW k (by unfold lx_bL; rw [hk, Bool.or_true]; rfl)
theorem lx_bLN (hW : ∀ k, lx_bL k = true → W k = false) : ∀ k, lx_bN k = true → W k = false := fun k hk => hW k (by unfold lx_bL; rw [hk, Bool.or_true])
theorem lx_K1keep (h : lx_I T M n Lf t u) (J : tm_I tm_FT W x T M n T1 M1 n1) (hW : ∀ k, lx_bL k = true → W k = false) (k : lx_K1 T M n t9) : lx_K1 T1 M1 n1 t9 := by
  obtain ⟨k0, A, fr, va, k1, k2⟩ := k
  exact ⟨lx_K0keep h J (lx_bLK hW) k0, A, fr, va, k1.keep h J (lx_bLA hW), k2.keep h J (lx_bLN hW)⟩
end LKA
/-- an act is told: both have it, or neither -/
theorem lx_actA {La NR A Rd pn : Nat} {b : Nat → Int} {fr : Nat → Int} {va : Nat → Nat → Int} {vD vM x : Int} {k vp0 : Int32} {M1 M2 : mj_M} (D : (vD = -1 ∧ ¬ (0 ≤ x ∧ x ≤ 36000 ∧ k.toInt < 20) ∧ qB M1 Rd b pn ∧ tm_at M1 Rd 9 2 (.int vp0) ∧ tm_at M1 La 0 2 (.int k)) ∨ ((0 ≤ x ∧ x ≤ 36000 ∧ k.toInt < 20) ∧ tm_at M1 Rd 9 0 (.int 0) ∧ ∃ vp k1 : Int32, tm_at M1 Rd 9 2 (.int vp) ∧ tm_at M1 La 0 2 (.int k1) ∧ ((p_act b pn).2.1 = 0 ∧ vD = ((p_act b pn).1 : Int) ∧ vp.toInt = -1 ∧ k1.toInt = k.toInt + 1 ∨ (p_act b pn).2.1 ≠ 0 ∧ vD = -1 - (p_act b pn).2.1 ∧ vp.toInt = ((p_act b pn).2.2.1 : Int) ∧ k1.toInt = k.toInt))) (R : (vM = -1 ∧ ¬ (0 ≤ x ∧ x ≤ 36000 ∧ rv M1 99 27 ≠ 20) ∧ rv M2 99 14 = rv M1 99 14 ∧ rv M2 99 21 = rv M1 99 21 ∧ rv M2 99 27 = rv M1 99 27) ∨ ((0 ≤ x ∧ x ≤ 36000 ∧ rv M1 99 27 ≠ 20) ∧ rv M2 99 14 = 0 ∧ (((p_act b pn).2.1 = 0 ∧ vM = ((p_act b pn).1 : Int) ∧ rv M2 99 21 = -1 ∧ rv M2 99 27 = rv M1 99 27 + 1) ∨ ((p_act b pn).2.1 ≠ 0 ∧ vM = -1 - (p_act b pn).2.1 ∧ rv M2 99 21 = ((p_act b pn).2.2.1 : Int) ∧ rv M2 99 27 = rv M1 99 27)))) (qT1 : qT M1 La NR A fr va) (FQ : (0 ≤ x ∧ x ≤ 36000 ∧ k.toInt < 20) → (p_act b pn).2.1 = 0 → ∃ a : Nat, tm_ge M1 La k.toNatClampNeg a ∧ qO M1 a x (p_av b pn).2) (a2 : aA M2 99 (rv M1 99 27) fr va) (F2 : (0 ≤ x ∧ x ≤ 36000 ∧ rv M1 99 27 ≠ 20) → (p_act b pn).2.1 = 0 → ra M2 99 28 (rv M1 99 27).toNat = x ∧ ∀ w : Nat, w < 6 → sc M2 99 (20 * (rv M1 99 27).toNat) (ra M2 99 6 (rv M1 99 27).toNat).toNat w (p_dv w) = (p_av b pn).2 w) (hk : k.toInt = (A : Int)) (h27 : rv M1 99 27 = (A : Int)) (h20 : (A : Int) ≤ 20) (hf : ∀ i : Nat, i < A → 0 ≤ fr i) : ∃ (A1 : Nat) (fr1 : Nat → Int) (va1 : Nat → Nat → Int) (k1 : Int32), tm_at M1 La 0 2 (.int k1) ∧ k1.toInt = (A1 : Int) ∧ qT M1 La NR A1 fr1 va1 ∧ (∀ i : Nat, i < A1 → 0 ≤ fr1 i) ∧ lx_AM M2 A1 fr1 va1 := by
  rw [h27] at a2 F2
  rcases D with ⟨-, d2, -, -, d5⟩ | ⟨d1, -, vp, k1, -, d4, d5⟩
  · have e : rv M2 99 27 = rv M1 99 27 := by
      rcases R with ⟨-, -, -, -, r5⟩ | ⟨r1, -⟩
      · exact r5
      · exact absurd ⟨r1.1, r1.2.1, by omega⟩ d2
    exact ⟨A, fr, va, k, d5, hk, qT1, hf, e.trans h27, a2⟩
  · rcases d5 with ⟨p0, -, -, d6⟩ | ⟨p0, -, -, d6⟩
    · have e : rv M2 99 27 = (A : Int) + 1 := by
        rcases R with ⟨-, r2, -⟩ | ⟨-, -, ⟨-, -, -, r5⟩ | ⟨r6, -⟩⟩
        · exact absurd ⟨d1.1, d1.2.1, by omega⟩ r2
        · omega
        · exact absurd p0 r6
      obtain ⟨a, g, q⟩ := FQ d1 p0
      have ek : k.toNatClampNeg = A := by
        have := mz_nat9 (i := k) (by omega)
        omega
      rw [ek] at g
      obtain ⟨f1, f2⟩ := F2 ⟨d1.1, d1.2.1, by omega⟩ p0
      have m := aA.more (A := (A : Int)) (x := x) (X := (p_av b pn).2) a2 (by omega) f1 f2
      have e9 : ((A + 1 : Nat) : Int) = (A : Int) + 1 := by omega
      refine ⟨A + 1, _, _, k1, d4, by omega, qT1.more g q, fun i hi => ?_, by omega, ?_⟩
      · show 0 ≤ if i = A then x else fr i
        by_cases e8 : i = A
        · rw [if_pos e8]
          exact d1.1
        · rw [if_neg e8]
          exact hf i (by omega)
      · rw [e9]
        exact m
    · have e : rv M2 99 27 = rv M1 99 27 := by
        rcases R with ⟨-, -, -, -, r5⟩ | ⟨-, -, ⟨r6, -⟩ | ⟨-, -, -, r5⟩⟩
        · exact r5
        · exact absurd r6 p0
        · exact r5
      exact ⟨A, fr, va, k1, d4, by omega, qT1, hf, e.trans h27, a2⟩
/-- what a rule says on a day -/
theorem lx_holdsA {A : Nat} {fr : Nat → Int} {va : Nat → Nat → Int} {vD vM x1 x2 : Int} {M1 : mj_M} (D : (vD = -1 ∧ ¬ (0 ≤ x1 ∧ x1 ≤ 36000 ∧ 0 ≤ x2 ∧ x2 ≤ 5)) ∨ ((0 ≤ x1 ∧ x1 ≤ 36000 ∧ 0 ≤ x2 ∧ x2 ≤ 5) ∧ vD = p_told fr va x1 A x2.toNat)) (R : (vM = -1 ∧ ¬ (0 ≤ x1 ∧ x1 ≤ 36000 ∧ 0 ≤ x2 ∧ x2 ≤ 5)) ∨ ((0 ≤ x1 ∧ x1 ≤ 36000 ∧ 0 ≤ x2 ∧ x2 ≤ 5) ∧ vM = p_tr M1 99 x1 x2.toNat)) (k : lx_AM M1 A fr va) : vD = vM := by
  rcases D with ⟨d1, d2⟩ | ⟨d1, d2⟩
  · rcases R with ⟨r1, r2⟩ | ⟨r1, r2⟩
    · exact d1.trans r1.symm
    · exact absurd r1 d2
  · rcases R with ⟨r1, r2⟩ | ⟨r1, r2⟩
    · exact absurd d1 r2
    · rw [d2, r2, p_tr_told (w := x2.toNat) k.2 k.1 (by omega)]
