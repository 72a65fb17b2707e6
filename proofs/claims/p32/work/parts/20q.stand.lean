/-! THE REFERENCE STANDS AT A TOKEN: what its fields hold, by the pure reader -/
/-- the token's kind as the reference has it: 0 the end, 1 figures that are too many, 2 a number, 3 a word, 4 a sign -/
def p_rs (b : Nat → Int) (n k : Nat) : Int := if p_ki b n k = 0 then 0 else if p_ki b n k = 1 then 3 else if p_ki b n k = 2 then (if 0 ≤ p_nm b n k then 2 else 1) else 4
/-- its value: of a number, of a sign -/
def p_rv (b : Nat → Int) (n k : Nat) : Int := if p_ki b n k = 2 then p_nm b n k else if p_sv b n k < 128 then p_sv b n k else p_sv b n k - 256
/-- the tape: its bytes, how many, which names there are -/
def pB (M : mj_M) (o : Nat) (b : Nat → Int) (n : Nat) (na : Int) : Prop := rv M o 14 = (n : Int) ∧ n ≤ 400 ∧ (∀ i, 0 ≤ b i ∧ b i ≤ 255) ∧ (∀ i : Nat, i < n → ra M o 13 i = if b i < 128 then b i else b i - 256) ∧ (rv M o 23 = 0 ∧ na = 10 ∨ rv M o 23 ≠ 0 ∧ na = 13)
/-- the token at hand -/
def pT (M : mj_M) (o : Nat) (b : Nat → Int) (n k : Nat) : Prop := rv M o 16 = (p_st b n k : Int) ∧ rv M o 15 = (p_sp b n k : Int) ∧ rv M o 17 = p_rs b n k ∧ (p_rs b n k = 2 ∨ p_rs b n k = 4 → rv M o 18 = p_rv b n k)
def pO (M : mj_M) (o : Nat) (b : Nat → Int) (n : Nat) (na : Int) (s : p_S) : Prop := pB M o b n na ∧ rv M o 19 = s.1 ∧ (s.1 ≠ 0 → rv M o 20 = (s.2.1 : Int)) ∧ (s.1 = 0 → pT M o b n s.2.2)
/-- it will read token s.2.2 next -/
def pP (M : mj_M) (o : Nat) (b : Nat → Int) (n : Nat) (na : Int) (s : p_S) : Prop := pB M o b n na ∧ rv M o 19 = s.1 ∧ (s.1 ≠ 0 → rv M o 20 = (s.2.1 : Int)) ∧ (s.1 = 0 → rv M o 15 = (p_tp b n s.2.2 : Int))
/-- the tape alone -/
def pX (M : mj_M) (o : Nat) (b : Nat → Int) (n : Nat) : Prop := rv M o 14 = (n : Int) ∧ n ≤ 400 ∧ (∀ i, 0 ≤ b i ∧ b i ≤ 255) ∧ ∀ i : Nat, i < n → ra M o 13 i = if b i < 128 then b i else b i - 256
section PO
variable {M M1 : mj_M} {o n k : Nat} {b : Nat → Int} {na : Int} {s : p_S}
theorem p_so_r (x : Int) : p_so x = 1 ∨ p_so x = 2 ∨ p_so x = 3 ∨ p_so x = 4 := by
  unfold p_so
  repeat' split
  all_goals decide
theorem p_st_nb : ¬ (p_st b n k < n ∧ p_so (b (p_st b n k)) = 4) := by
  unfold p_st
  generalize p_tp b n k = p
  unfold p_sk
  by_cases h : p ≤ n
  · generalize e : n - p = f
    induction f generalizing p with
    | zero =>
      intro h1
      have : p < n := h1.1
      omega
    | succ f ih =>
      intro h1
      have h2 : p_run b n 4 (f + 1) p = if p < n ∧ p_so (b p) = 4 then p_run b n 4 f (p + 1) else p := rfl
      by_cases h3 : p < n ∧ p_so (b p) = 4
      · rw [if_pos h3] at h2
        rw [h2] at h1
        exact ih (p + 1) (by omega) (by omega) h1
      · rw [if_neg h3] at h2
        rw [h2] at h1
        exact h3 h1
  · rw [show n - p = 0 from by omega]
    intro h1
    have : p < n := h1.1
    omega
theorem p_ki_r : p_ki b n k = 0 ∨ p_ki b n k = 1 ∨ p_ki b n k = 2 ∨ p_ki b n k = 3 := by
  unfold p_ki
  by_cases h : p_st b n k < n
  · rw [if_pos h]
    rcases p_so_r (b (p_st b n k)) with h1 | h1 | h1 | h1
    · exact Or.inr (Or.inl h1)
    · exact Or.inr (Or.inr (Or.inl h1))
    · exact Or.inr (Or.inr (Or.inr h1))
    · exact absurd ⟨h, h1⟩ p_st_nb
  · rw [if_neg h]
    exact Or.inl rfl
theorem p_nm_ge : -1 ≤ p_nm b n k ∨ p_ki b n k = 2 := by
  unfold p_nm
  split
  · rename_i h
    exact Or.inr h.1
  · exact Or.inl (Int.le_refl _)
/-- the words for one token, in their five cases -/
theorem p_dj (hb : ∀ i, 0 ≤ b i ∧ b i ≤ 255) : (p_ki b n k = 0 ∧ p_rs b n k = 0 ∧ p_wi b n k = -1 ∧ p_nm b n k = -1 ∧ p_sv b n k = -1) ∨ (p_ki b n k = 1 ∧ p_rs b n k = 3 ∧ p_nm b n k = -1 ∧ p_sv b n k = -1 ∧ -1 ≤ p_wi b n k ∧ p_wi b n k ≤ 32) ∨ (p_ki b n k = 2 ∧ p_rs b n k = 1 ∧ p_wi b n k = -1 ∧ p_nm b n k < 0 ∧ p_sv b n k = -1) ∨ (p_ki b n k = 2 ∧ p_rs b n k = 2 ∧ p_wi b n k = -1 ∧ 0 ≤ p_nm b n k ∧ p_rv b n k = p_nm b n k ∧ p_sv b n k = -1) ∨ (p_ki b n k = 3 ∧ p_rs b n k = 4 ∧ p_wi b n k = -1 ∧ p_nm b n k = -1 ∧ 0 ≤ p_sv b n k ∧ p_sv b n k ≤ 255 ∧ (p_sv b n k < 128 ∧ p_rv b n k = p_sv b n k ∨ 128 ≤ p_sv b n k ∧ p_rv b n k = p_sv b n k - 256)) := by
  have hw := p_wi_ge (b := b) (n := n) (k := k)
  rcases p_ki_r (b := b) (n := n) (k := k) with h | h | h | h
  · refine Or.inl ⟨h, ?_, ?_, ?_, ?_⟩
    · unfold p_rs
      rw [if_pos h]
    · unfold p_wi
      rw [if_neg (by omega)]
    · unfold p_nm
      rw [if_neg (by omega)]
    · unfold p_sv
      rw [if_neg (by omega)]
  · refine Or.inr (Or.inl ⟨h, ?_, ?_, ?_, hw⟩)
    · unfold p_rs
      rw [if_neg (by omega), if_pos h]
    · unfold p_nm
      rw [if_neg (by omega)]
    · unfold p_sv
      rw [if_neg (by omega)]
  · have h1 : p_wi b n k = -1 := by
      unfold p_wi
      rw [if_neg (by omega)]
    have h2 : p_sv b n k = -1 := by
      unfold p_sv
      rw [if_neg (by omega)]
    have h3 : p_rv b n k = p_nm b n k := by
      unfold p_rv
      rw [if_pos h]
    by_cases h4 : 0 ≤ p_nm b n k
    · refine Or.inr (Or.inr (Or.inr (Or.inl ⟨h, ?_, h1, h4, h3, h2⟩)))
      unfold p_rs
      rw [if_neg (by omega), if_neg (by omega), if_pos h, if_pos h4]
    · refine Or.inr (Or.inr (Or.inl ⟨h, ?_, h1, by omega, h2⟩))
      unfold p_rs
      rw [if_neg (by omega), if_neg (by omega), if_pos h, if_neg h4]
  · have h1 : p_sv b n k = b (p_st b n k) := by
      unfold p_sv
      rw [if_pos h]
    have h2 := hb (p_st b n k)
    refine Or.inr (Or.inr (Or.inr (Or.inr ⟨h, ?_, ?_, ?_, by omega, by omega, ?_⟩)))
    · unfold p_rs
      rw [if_neg (by omega), if_neg (by omega), if_neg (by omega)]
    · unfold p_wi
      rw [if_neg (by omega)]
    · unfold p_nm
      rw [if_neg (by omega)]
    · unfold p_rv
      rw [if_neg (by omega)]
      by_cases h3 : p_sv b n k < 128
      · rw [if_pos h3]
        exact Or.inl ⟨h3, rfl⟩
      · rw [if_neg h3]
        exact Or.inr ⟨by omega, rfl⟩
theorem pB.same (h : pB M o b n na) (h14 : rv M1 o 14 = rv M o 14) (h23 : rv M1 o 23 = rv M o 23) (ha : ∀ i, ra M1 o 13 i = ra M o 13 i) : pB M1 o b n na := by
  obtain ⟨h1, h2, h3, h4, h5⟩ := h
  exact ⟨h14.trans h1, h2, h3, fun i hi => (ha i).trans (h4 i hi), by rw [h23]; exact h5⟩
theorem pO.same (h : pO M o b n na s) (hv : ∀ k, 14 ≤ k → k ≤ 20 → rv M1 o k = rv M o k) (h23 : rv M1 o 23 = rv M o 23) (ha : ∀ i, ra M1 o 13 i = ra M o 13 i) : pO M1 o b n na s := by
  obtain ⟨h1, h2, h3, h4⟩ := h
  refine ⟨h1.same (hv 14 (by decide) (by decide)) h23 ha, (hv 19 (by decide) (by decide)).trans h2, fun w => (hv 20 (by decide) (by decide)).trans (h3 w), fun w => ?_⟩
  obtain ⟨q1, q2, q3, q4⟩ := h4 w
  exact ⟨(hv 16 (by decide) (by decide)).trans q1, (hv 15 (by decide) (by decide)).trans q2, (hv 17 (by decide) (by decide)).trans q3, fun z => (hv 18 (by decide) (by decide)).trans (q4 z)⟩
theorem pO.p (h : pO M o b n na s) : pP M o b n na (p_nx s) := ⟨h.1, h.2.1, h.2.2.1, fun w => (h.2.2.2 w).2.1⟩
theorem pO.w (h : pO M o b n na s) : rv M o 19 = s.1 := h.2.1
theorem pO.t (h : pO M o b n na s) (w : s.1 = 0) : rv M o 16 = (p_st b n s.2.2 : Int) ∧ rv M o 15 = (p_sp b n s.2.2 : Int) ∧ rv M o 17 = p_rs b n s.2.2 ∧ (p_rs b n s.2.2 = 2 ∨ p_rs b n s.2.2 = 4 → rv M o 18 = p_rv b n s.2.2) := h.2.2.2 w
theorem pO.d (h : pO M o b n na s) : (p_ki b n s.2.2 = 0 ∧ p_rs b n s.2.2 = 0 ∧ p_wi b n s.2.2 = -1 ∧ p_nm b n s.2.2 = -1 ∧ p_sv b n s.2.2 = -1) ∨ (p_ki b n s.2.2 = 1 ∧ p_rs b n s.2.2 = 3 ∧ p_nm b n s.2.2 = -1 ∧ p_sv b n s.2.2 = -1 ∧ -1 ≤ p_wi b n s.2.2 ∧ p_wi b n s.2.2 ≤ 32) ∨ (p_ki b n s.2.2 = 2 ∧ p_rs b n s.2.2 = 1 ∧ p_wi b n s.2.2 = -1 ∧ p_nm b n s.2.2 < 0 ∧ p_sv b n s.2.2 = -1) ∨ (p_ki b n s.2.2 = 2 ∧ p_rs b n s.2.2 = 2 ∧ p_wi b n s.2.2 = -1 ∧ 0 ≤ p_nm b n s.2.2 ∧ p_rv b n s.2.2 = p_nm b n s.2.2 ∧ p_sv b n s.2.2 = -1) ∨ (p_ki b n s.2.2 = 3 ∧ p_rs b n s.2.2 = 4 ∧ p_wi b n s.2.2 = -1 ∧ p_nm b n s.2.2 = -1 ∧ 0 ≤ p_sv b n s.2.2 ∧ p_sv b n s.2.2 ≤ 255 ∧ (p_sv b n s.2.2 < 128 ∧ p_rv b n s.2.2 = p_sv b n s.2.2 ∨ 128 ≤ p_sv b n s.2.2 ∧ p_rv b n s.2.2 = p_sv b n s.2.2 - 256)) := p_dj h.1.2.2.1
/-- a fault is told -/
theorem pO.fails {e : Int} (h : pO M o b n na s) (he : e ≠ 0) (hw : s.1 = 0) (h14 : rv M1 o 14 = rv M o 14) (h23 : rv M1 o 23 = rv M o 23) (ha : ∀ i, ra M1 o 13 i = ra M o 13 i) (h19 : rv M1 o 19 = e) (h20 : rv M1 o 20 = rv M o 16) : pO M1 o b n na (p_fl b n e s) := by
  unfold p_fl
  rw [if_pos hw]
  exact ⟨h.1.same h14 h23 ha, h19, fun _ => h20.trans (h.2.2.2 hw).1, fun w => absurd w he⟩
end PO
/-! the next token -/
section PN
variable {M M0 M1 : mj_M} {o n k p q : Nat} {b : Nat → Int} {na : Int} {s : p_S} {t v : Int}
theorem p_so_d (x : Int) : ((x = 32 ∨ x = 10) ∧ p_so x = 4) ∨ (97 ≤ x ∧ x ≤ 122 ∧ p_so x = 1) ∨ (48 ≤ x ∧ x ≤ 57 ∧ p_so x = 2) ∨ (x ≠ 32 ∧ x ≠ 10 ∧ ¬ (97 ≤ x ∧ x ≤ 122) ∧ ¬ (48 ≤ x ∧ x ≤ 57) ∧ p_so x = 3) := by
  unfold p_so
  by_cases h1 : x = 32 ∨ x = 10
  · rw [if_pos h1]
    exact Or.inl ⟨h1, rfl⟩
  · rw [if_neg h1]
    by_cases h2 : 97 ≤ x ∧ x ≤ 122
    · rw [if_pos h2]
      exact Or.inr (Or.inl ⟨h2.1, h2.2, rfl⟩)
    · rw [if_neg h2]
      by_cases h3 : 48 ≤ x ∧ x ≤ 57
      · rw [if_pos h3]
        exact Or.inr (Or.inr (Or.inl ⟨h3.1, h3.2, rfl⟩))
      · rw [if_neg h3]
        exact Or.inr (Or.inr (Or.inr ⟨by omega, by omega, h2, h3, rfl⟩))
/-- a run goes on, or ends -/
def p_rn (b : Nat → Int) (n : Nat) (t : Int) (p : Nat) : Nat := p_run b n t (n - p) p
theorem p_rn_on (h : p < n) (hs : p_so (b p) = t) : p_rn b n t p = p_rn b n t (p + 1) := p_run_step h hs
theorem p_rn_end (h : ¬ (p < n ∧ p_so (b p) = t)) : p_rn b n t p = p := p_run_stop h
theorem p_rn_ge : p ≤ p_rn b n t p := p_run_ge _ _
theorem p_rn_le (h : p ≤ n) : p_rn b n t p ≤ n := p_run_le _ _ h
theorem p_sk_rn : p_sk b n p = p_rn b n 4 p := rfl
theorem p_en_w {t : Int} (h : p_so (b p) = t) (h3 : t ≠ 3) : p_en b n p = p_rn b n t (p + 1) := by
  unfold p_en
  rw [if_neg (by omega), h]
  rfl
theorem p_en_s (h : p_so (b p) = 3) : p_en b n p = p + 1 := if_pos h
theorem p_nu_out : ∀ (m p : Nat) (v : Int), p_nu b (m + 1) p v = 10 * p_nu b m p v + (b (p + m) - 48)
  | 0, _, _ => rfl
  | m + 1, p, v => by
    show p_nu b (m + 1) (p + 1) (10 * v + (b p - 48)) = 10 * p_nu b m (p + 1) (10 * v + (b p - 48)) + _
    rw [p_nu_out m (p + 1), show p + 1 + m = p + (m + 1) from by omega]
theorem p_sp_in (h : p_st b n k < n) : p_sp b n k = p_en b n (p_st b n k) := (p_sp_gt h).2
theorem p_sp_ov (h : ¬ p_st b n k < n) : p_sp b n k = n := if_neg h
theorem p_ki_in (h : p_st b n k < n) : p_ki b n k = p_so (b (p_st b n k)) := if_pos h
theorem pT.over (h : ¬ p_st b n k < n) (h16 : rv M o 16 = (p_st b n k : Int)) (h15 : rv M o 15 = (p_st b n k : Int)) (h17 : rv M o 17 = 0) : pT M o b n k := by
  have e := p_sp_ov h
  have e1 := p_st_le (b := b) (n := n) (k := k)
  have e2 : p_ki b n k = 0 := if_neg h
  have e3 : p_rs b n k = 0 := if_pos e2
  exact ⟨h16, by omega, by omega, fun h9 => by omega⟩
theorem pT.word (h : p_st b n k < n) (hs : p_so (b (p_st b n k)) = 1) (h16 : rv M o 16 = (p_st b n k : Int)) (h15 : rv M o 15 = (p_rn b n 1 (p_st b n k + 1) : Int)) (h17 : rv M o 17 = 3) : pT M o b n k := by
  have e := p_sp_in h
  have e1 := p_en_w (n := n) hs (by decide)
  have e2 : p_ki b n k = 1 := (p_ki_in h).trans hs
  have e3 : p_rs b n k = 3 := by
    unfold p_rs
    rw [if_neg (by omega), if_pos e2]
  exact ⟨h16, by omega, by omega, fun h9 => by omega⟩
theorem pT.sign (h : p_st b n k < n) (hs : p_so (b (p_st b n k)) = 3) (h16 : rv M o 16 = (p_st b n k : Int)) (h15 : rv M o 15 = (p_st b n k : Int) + 1) (h17 : rv M o 17 = 4) (h18 : b (p_st b n k) < 128 ∧ rv M o 18 = b (p_st b n k) ∨ 128 ≤ b (p_st b n k) ∧ rv M o 18 = b (p_st b n k) - 256) : pT M o b n k := by
  have e := p_sp_in h
  have e1 := p_en_s (n := n) hs
  have e2 : p_ki b n k = 3 := (p_ki_in h).trans hs
  have e3 : p_rs b n k = 4 := by
    unfold p_rs
    rw [if_neg (by omega), if_neg (by omega), if_neg (by omega)]
  have e4 : p_sv b n k = b (p_st b n k) := if_pos e2
  refine ⟨h16, by omega, by omega, fun h9 => ?_⟩
  unfold p_rv
  rw [if_neg (by omega), e4]
  rcases h18 with ⟨h1, h2⟩ | ⟨h1, h2⟩
  · rw [if_pos h1]
    exact h2
  · rw [if_neg (by omega)]
    exact h2
theorem pT.num (h : p_st b n k < n) (hs : p_so (b (p_st b n k)) = 2) (h16 : rv M o 16 = (p_st b n k : Int)) (h15 : rv M o 15 = (p_rn b n 2 (p_st b n k + 1) : Int)) (h17 : (rv M o 15 - rv M o 16 ≤ 4 ∧ rv M o 17 = 2) ∨ (4 < rv M o 15 - rv M o 16 ∧ rv M o 17 = 1)) (h18 : rv M o 15 - rv M o 16 ≤ 4 → rv M o 18 = p_nu b (p_rn b n 2 (p_st b n k + 1) - p_st b n k) (p_st b n k) 0 ∧ 0 ≤ rv M o 18) : pT M o b n k := by
  have e := p_sp_in h
  have e1 := p_en_w (n := n) hs (by decide)
  have e2 : p_ki b n k = 2 := (p_ki_in h).trans hs
  have e5 : p_sp b n k = p_rn b n 2 (p_st b n k + 1) := by omega
  have e4 : rv M o 15 - rv M o 16 ≤ 4 → p_nm b n k = p_nu b (p_rn b n 2 (p_st b n k + 1) - p_st b n k) (p_st b n k) 0 := fun h9 => by
    unfold p_nm
    rw [if_pos ⟨e2, by omega⟩, e5]
  have e6 : 4 < rv M o 15 - rv M o 16 → p_nm b n k = -1 := fun h9 => by
    unfold p_nm
    rw [if_neg (fun h8 => by have := h8.2; omega)]
  have e3 : p_rs b n k = if 0 ≤ p_nm b n k then 2 else 1 := by
    unfold p_rs
    rw [if_neg (by omega), if_neg (by omega), if_pos e2]
  have e7 : p_rv b n k = p_nm b n k := if_pos e2
  rcases h17 with ⟨h1, h2⟩ | ⟨h1, h2⟩
  · have e8 := e4 h1
    have e9 := h18 h1
    rw [if_pos (by omega)] at e3
    exact ⟨h16, by omega, by omega, fun _ => by omega⟩
  · have e8 := e6 h1
    rw [if_neg (by omega)] at e3
    exact ⟨h16, by omega, by omega, fun h9 => by omega⟩
/-- where the next token begins -/
theorem pP.a (h : pP M0 o b n na s) (hp : rv M0 o 15 = (p : Int)) (w : s.1 = 0) : p_st b n s.2.2 = p_rn b n 4 p := by
  have h1 := h.2.2.2 w
  have h2 : p = p_tp b n s.2.2 := by omega
  subst h2
  rfl
/-- a byte of the tape -/
theorem pB.byte (h : pB M o b n na) (hi : p < n) (hv : v = ra M o 13 p) : 0 ≤ b p ∧ b p ≤ 255 ∧ (b p < 128 ∧ v = b p ∨ 128 ≤ b p ∧ v = b p - 256) := by
  have h1 := h.2.2.1 p
  have h2 := h.2.2.2.1 p hi
  refine ⟨h1.1, h1.2, ?_⟩
  by_cases h3 : b p < 128
  · rw [if_pos h3] at h2
    exact Or.inl ⟨h3, by omega⟩
  · rw [if_neg h3] at h2
    exact Or.inr ⟨by omega, by omega⟩
end PN
theorem pO.nx2 {M M0 : mj_M} {o n : Nat} {b : Nat → Int} {na : Int} {s : p_S} (h : pP M0 o b n na s) (hB : pB M o b n na) (h19 : rv M o 19 = rv M0 o 19) (h20 : rv M o 20 = rv M0 o 20) (ht : s.1 = 0 → pT M o b n s.2.2) : pO M o b n na s := ⟨hB, h19.trans h.2.1, fun w => h20.trans (h.2.2.1 w), ht⟩
