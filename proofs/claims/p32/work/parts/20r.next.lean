section PW
variable {M : mj_M} {o n : Nat} {b : Nat → Int} {na : Int} {s : p_S} {v : Int32}
theorem p_eb_iff {b : Nat → Int} : ∀ (w : List Int) (s e : Nat), p_eb b s e w = true ↔ e = s + w.length ∧ ∀ i, i < w.length → b (s + i) = w.getD i 0 := by
  have key : ∀ (w : List Int) (s : Nat), p_mb b s w = true ↔ ∀ i, i < w.length → b (s + i) = w.getD i 0 := by
    intro w
    induction w with
    | nil => exact fun s => ⟨fun _ i hi => absurd hi (Nat.not_lt_zero _), fun _ => rfl⟩
    | cons c r ih =>
      intro s
      show (decide (b s = c) && p_mb b (s + 1) r) = true ↔ _
      rw [Bool.and_eq_true, decide_eq_true_eq, ih (s + 1)]
      constructor
      · rintro ⟨h1, h2⟩ i hi
        cases i with
        | zero => exact h1
        | succ i =>
          rw [show s + (i + 1) = s + 1 + i from by omega]
          exact h2 i (by simpa using hi)
      · intro h
        refine ⟨h 0 (by simp), fun i hi => ?_⟩
        rw [show s + 1 + i = s + (i + 1) from by omega]
        exact h (i + 1) (by simpa using hi)
  intro w s e
  unfold p_eb
  rw [Bool.and_eq_true, decide_eq_true_eq, key w s]
/-- a word as the reference looks for it -/
theorem pO.wd {J : Nat} {W : List Int} (h : pO M o b n na s) (w : s.1 = 0) (hj : p_ws[J]? = some W) (hs : ∀ i, i < W.length → 97 ≤ W.getD i 0 ∧ W.getD i 0 ≤ 122) : (rv M o 17 = 3 ∧ rv M o 15 - rv M o 16 = (W.length : Int) ∧ ∀ i, i < W.length → ra M o 13 ((rv M o 16).toNat + i) = W.getD i 0) ↔ p_wi b n s.2.2 = J := by
  obtain ⟨t1, t2, t3, -⟩ := h.t w
  have hd := h.d
  rw [p_wi_iff hj, p_eb_iff, t1, t2, t3]
  have e0 : ((p_st b n s.2.2 : Nat) : Int).toNat = p_st b n s.2.2 := by omega
  rw [e0]
  have hsp : p_ki b n s.2.2 = 1 → p_sp b n s.2.2 ≤ n := fun h1 => p_tp_le (b := b) (n := n) (s.2.2 + 1)
  have hB := h.1
  constructor
  · rintro ⟨h1, h2, h3⟩
    have hk : p_ki b n s.2.2 = 1 := by omega
    refine ⟨hk, by omega, fun i hi => ?_⟩
    have h4 := h3 i hi
    have h5 := hs i hi
    have h6 := hsp hk
    have h7 := hB.byte (p := p_st b n s.2.2 + i) (by omega) rfl
    omega
  · rintro ⟨hk, h2, h3⟩
    refine ⟨by omega, by omega, fun i hi => ?_⟩
    have h4 := h3 i hi
    have h5 := hs i hi
    have h6 := hsp hk
    have h7 := hB.byte (p := p_st b n s.2.2 + i) (by omega) rfl
    omega
theorem pO.w_0 (h : pO M o b n na s) (w : s.1 = 0) (f1 : v.toInt = 1 → rv M o 17 = 3 ∧ rv M o 15 - rv M o 16 = 4 ∧ ra M o 13 ((rv M o 16).toNat + 0) = 112 ∧ ra M o 13 ((rv M o 16).toNat + 1) = 111 ∧ ra M o 13 ((rv M o 16).toNat + 2) = 111 ∧ ra M o 13 ((rv M o 16).toNat + 3) = 114) (f0 : v.toInt = 0 → ¬ (rv M o 17 = 3 ∧ rv M o 15 - rv M o 16 = 4 ∧ ra M o 13 ((rv M o 16).toNat + 0) = 112 ∧ ra M o 13 ((rv M o 16).toNat + 1) = 111 ∧ ra M o 13 ((rv M o 16).toNat + 2) = 111 ∧ ra M o 13 ((rv M o 16).toNat + 3) = 114)) (hv : v.toInt = 0 ∨ v.toInt = 1) : (v.toInt = 1 ∧ p_wi b n s.2.2 = 0) ∨ (v.toInt = 0 ∧ p_wi b n s.2.2 ≠ 0) := by
  have key := h.wd (J := 0) (W := [112, 111, 111, 114]) w rfl (by decide)
  have k2 : (rv M o 17 = 3 ∧ rv M o 15 - rv M o 16 = 4 ∧ ra M o 13 ((rv M o 16).toNat + 0) = 112 ∧ ra M o 13 ((rv M o 16).toNat + 1) = 111 ∧ ra M o 13 ((rv M o 16).toNat + 2) = 111 ∧ ra M o 13 ((rv M o 16).toNat + 3) = 114) ↔ p_wi b n s.2.2 = 0 := by
    refine Iff.trans ⟨fun h9 => ?_, fun h9 => ?_⟩ key
    · obtain ⟨h1, h2, h3, h4, h5, h6⟩ := h9
      refine ⟨h1, h2, fun i hi => ?_⟩
      match i, hi with
      | 0, _ => exact h3
      | 1, _ => exact h4
      | 2, _ => exact h5
      | 3, _ => exact h6
    · exact ⟨h9.1, h9.2.1, h9.2.2 0 (by decide), h9.2.2 1 (by decide), h9.2.2 2 (by decide), h9.2.2 3 (by decide)⟩
  rcases hv with hv | hv
  · exact Or.inr ⟨hv, fun h9 => f0 hv (k2.mpr h9)⟩
  · exact Or.inl ⟨hv, k2.mp (f1 hv)⟩
theorem pO.w_1 (h : pO M o b n na s) (w : s.1 = 0) (f1 : v.toInt = 1 → rv M o 17 = 3 ∧ rv M o 15 - rv M o 16 = 5 ∧ ra M o 13 ((rv M o 16).toNat + 0) = 109 ∧ ra M o 13 ((rv M o 16).toNat + 1) = 97 ∧ ra M o 13 ((rv M o 16).toNat + 2) = 105 ∧ ra M o 13 ((rv M o 16).toNat + 3) = 100 ∧ ra M o 13 ((rv M o 16).toNat + 4) = 115) (f0 : v.toInt = 0 → ¬ (rv M o 17 = 3 ∧ rv M o 15 - rv M o 16 = 5 ∧ ra M o 13 ((rv M o 16).toNat + 0) = 109 ∧ ra M o 13 ((rv M o 16).toNat + 1) = 97 ∧ ra M o 13 ((rv M o 16).toNat + 2) = 105 ∧ ra M o 13 ((rv M o 16).toNat + 3) = 100 ∧ ra M o 13 ((rv M o 16).toNat + 4) = 115)) (hv : v.toInt = 0 ∨ v.toInt = 1) : (v.toInt = 1 ∧ p_wi b n s.2.2 = 1) ∨ (v.toInt = 0 ∧ p_wi b n s.2.2 ≠ 1) := by
  have key := h.wd (J := 1) (W := [109, 97, 105, 100, 115]) w rfl (by decide)
  have k2 : (rv M o 17 = 3 ∧ rv M o 15 - rv M o 16 = 5 ∧ ra M o 13 ((rv M o 16).toNat + 0) = 109 ∧ ra M o 13 ((rv M o 16).toNat + 1) = 97 ∧ ra M o 13 ((rv M o 16).toNat + 2) = 105 ∧ ra M o 13 ((rv M o 16).toNat + 3) = 100 ∧ ra M o 13 ((rv M o 16).toNat + 4) = 115) ↔ p_wi b n s.2.2 = 1 := by
    refine Iff.trans ⟨fun h9 => ?_, fun h9 => ?_⟩ key
    · obtain ⟨h1, h2, h3, h4, h5, h6, h7⟩ := h9
      refine ⟨h1, h2, fun i hi => ?_⟩
      match i, hi with
      | 0, _ => exact h3
      | 1, _ => exact h4
      | 2, _ => exact h5
      | 3, _ => exact h6
      | 4, _ => exact h7
    · exact ⟨h9.1, h9.2.1, h9.2.2 0 (by decide), h9.2.2 1 (by decide), h9.2.2 2 (by decide), h9.2.2 3 (by decide), h9.2.2 4 (by decide)⟩
  rcases hv with hv | hv
  · exact Or.inr ⟨hv, fun h9 => f0 hv (k2.mpr h9)⟩
  · exact Or.inl ⟨hv, k2.mp (f1 hv)⟩
theorem pO.w_2 (h : pO M o b n na s) (w : s.1 = 0) (f1 : v.toInt = 1 → rv M o 17 = 3 ∧ rv M o 15 - rv M o 16 = 4 ∧ ra M o 13 ((rv M o 16).toNat + 0) = 98 ∧ ra M o 13 ((rv M o 16).toNat + 1) = 111 ∧ ra M o 13 ((rv M o 16).toNat + 2) = 121 ∧ ra M o 13 ((rv M o 16).toNat + 3) = 115) (f0 : v.toInt = 0 → ¬ (rv M o 17 = 3 ∧ rv M o 15 - rv M o 16 = 4 ∧ ra M o 13 ((rv M o 16).toNat + 0) = 98 ∧ ra M o 13 ((rv M o 16).toNat + 1) = 111 ∧ ra M o 13 ((rv M o 16).toNat + 2) = 121 ∧ ra M o 13 ((rv M o 16).toNat + 3) = 115)) (hv : v.toInt = 0 ∨ v.toInt = 1) : (v.toInt = 1 ∧ p_wi b n s.2.2 = 2) ∨ (v.toInt = 0 ∧ p_wi b n s.2.2 ≠ 2) := by
  have key := h.wd (J := 2) (W := [98, 111, 121, 115]) w rfl (by decide)
  have k2 : (rv M o 17 = 3 ∧ rv M o 15 - rv M o 16 = 4 ∧ ra M o 13 ((rv M o 16).toNat + 0) = 98 ∧ ra M o 13 ((rv M o 16).toNat + 1) = 111 ∧ ra M o 13 ((rv M o 16).toNat + 2) = 121 ∧ ra M o 13 ((rv M o 16).toNat + 3) = 115) ↔ p_wi b n s.2.2 = 2 := by
    refine Iff.trans ⟨fun h9 => ?_, fun h9 => ?_⟩ key
    · obtain ⟨h1, h2, h3, h4, h5, h6⟩ := h9
      refine ⟨h1, h2, fun i hi => ?_⟩
      match i, hi with
      | 0, _ => exact h3
      | 1, _ => exact h4
      | 2, _ => exact h5
      | 3, _ => exact h6
    · exact ⟨h9.1, h9.2.1, h9.2.2 0 (by decide), h9.2.2 1 (by decide), h9.2.2 2 (by decide), h9.2.2 3 (by decide)⟩
  rcases hv with hv | hv
  · exact Or.inr ⟨hv, fun h9 => f0 hv (k2.mpr h9)⟩
  · exact Or.inl ⟨hv, k2.mp (f1 hv)⟩
theorem pO.w_3 (h : pO M o b n na s) (w : s.1 = 0) (f1 : v.toInt = 1 → rv M o 17 = 3 ∧ rv M o 15 - rv M o 16 = 4 ∧ ra M o 13 ((rv M o 16).toNat + 0) = 115 ∧ ra M o 13 ((rv M o 16).toNat + 1) = 105 ∧ ra M o 13 ((rv M o 16).toNat + 2) = 99 ∧ ra M o 13 ((rv M o 16).toNat + 3) = 107) (f0 : v.toInt = 0 → ¬ (rv M o 17 = 3 ∧ rv M o 15 - rv M o 16 = 4 ∧ ra M o 13 ((rv M o 16).toNat + 0) = 115 ∧ ra M o 13 ((rv M o 16).toNat + 1) = 105 ∧ ra M o 13 ((rv M o 16).toNat + 2) = 99 ∧ ra M o 13 ((rv M o 16).toNat + 3) = 107)) (hv : v.toInt = 0 ∨ v.toInt = 1) : (v.toInt = 1 ∧ p_wi b n s.2.2 = 3) ∨ (v.toInt = 0 ∧ p_wi b n s.2.2 ≠ 3) := by
  have key := h.wd (J := 3) (W := [115, 105, 99, 107]) w rfl (by decide)
  have k2 : (rv M o 17 = 3 ∧ rv M o 15 - rv M o 16 = 4 ∧ ra M o 13 ((rv M o 16).toNat + 0) = 115 ∧ ra M o 13 ((rv M o 16).toNat + 1) = 105 ∧ ra M o 13 ((rv M o 16).toNat + 2) = 99 ∧ ra M o 13 ((rv M o 16).toNat + 3) = 107) ↔ p_wi b n s.2.2 = 3 := by
    refine Iff.trans ⟨fun h9 => ?_, fun h9 => ?_⟩ key
    · obtain ⟨h1, h2, h3, h4, h5, h6⟩ := h9
      refine ⟨h1, h2, fun i hi => ?_⟩
      match i, hi with
      | 0, _ => exact h3
      | 1, _ => exact h4
      | 2, _ => exact h5
      | 3, _ => exact h6
    · exact ⟨h9.1, h9.2.1, h9.2.2 0 (by decide), h9.2.2 1 (by decide), h9.2.2 2 (by decide), h9.2.2 3 (by decide)⟩
  rcases hv with hv | hv
  · exact Or.inr ⟨hv, fun h9 => f0 hv (k2.mpr h9)⟩
  · exact Or.inl ⟨hv, k2.mp (f1 hv)⟩
theorem pO.w_4 (h : pO M o b n na s) (w : s.1 = 0) (f1 : v.toInt = 1 → rv M o 17 = 3 ∧ rv M o 15 - rv M o 16 = 5 ∧ ra M o 13 ((rv M o 16).toNat + 0) = 98 ∧ ra M o 13 ((rv M o 16).toNat + 1) = 114 ∧ ra M o 13 ((rv M o 16).toNat + 2) = 101 ∧ ra M o 13 ((rv M o 16).toNat + 3) = 97 ∧ ra M o 13 ((rv M o 16).toNat + 4) = 100) (f0 : v.toInt = 0 → ¬ (rv M o 17 = 3 ∧ rv M o 15 - rv M o 16 = 5 ∧ ra M o 13 ((rv M o 16).toNat + 0) = 98 ∧ ra M o 13 ((rv M o 16).toNat + 1) = 114 ∧ ra M o 13 ((rv M o 16).toNat + 2) = 101 ∧ ra M o 13 ((rv M o 16).toNat + 3) = 97 ∧ ra M o 13 ((rv M o 16).toNat + 4) = 100)) (hv : v.toInt = 0 ∨ v.toInt = 1) : (v.toInt = 1 ∧ p_wi b n s.2.2 = 4) ∨ (v.toInt = 0 ∧ p_wi b n s.2.2 ≠ 4) := by
  have key := h.wd (J := 4) (W := [98, 114, 101, 97, 100]) w rfl (by decide)
  have k2 : (rv M o 17 = 3 ∧ rv M o 15 - rv M o 16 = 5 ∧ ra M o 13 ((rv M o 16).toNat + 0) = 98 ∧ ra M o 13 ((rv M o 16).toNat + 1) = 114 ∧ ra M o 13 ((rv M o 16).toNat + 2) = 101 ∧ ra M o 13 ((rv M o 16).toNat + 3) = 97 ∧ ra M o 13 ((rv M o 16).toNat + 4) = 100) ↔ p_wi b n s.2.2 = 4 := by
    refine Iff.trans ⟨fun h9 => ?_, fun h9 => ?_⟩ key
    · obtain ⟨h1, h2, h3, h4, h5, h6, h7⟩ := h9
      refine ⟨h1, h2, fun i hi => ?_⟩
      match i, hi with
      | 0, _ => exact h3
      | 1, _ => exact h4
      | 2, _ => exact h5
      | 3, _ => exact h6
      | 4, _ => exact h7
    · exact ⟨h9.1, h9.2.1, h9.2.2 0 (by decide), h9.2.2 1 (by decide), h9.2.2 2 (by decide), h9.2.2 3 (by decide), h9.2.2 4 (by decide)⟩
  rcases hv with hv | hv
  · exact Or.inr ⟨hv, fun h9 => f0 hv (k2.mpr h9)⟩
  · exact Or.inl ⟨hv, k2.mp (f1 hv)⟩
theorem pO.w_5 (h : pO M o b n na s) (w : s.1 = 0) (f1 : v.toInt = 1 → rv M o 17 = 3 ∧ rv M o 15 - rv M o 16 = 4 ∧ ra M o 13 ((rv M o 16).toNat + 0) = 99 ∧ ra M o 13 ((rv M o 16).toNat + 1) = 111 ∧ ra M o 13 ((rv M o 16).toNat + 2) = 97 ∧ ra M o 13 ((rv M o 16).toNat + 3) = 108) (f0 : v.toInt = 0 → ¬ (rv M o 17 = 3 ∧ rv M o 15 - rv M o 16 = 4 ∧ ra M o 13 ((rv M o 16).toNat + 0) = 99 ∧ ra M o 13 ((rv M o 16).toNat + 1) = 111 ∧ ra M o 13 ((rv M o 16).toNat + 2) = 97 ∧ ra M o 13 ((rv M o 16).toNat + 3) = 108)) (hv : v.toInt = 0 ∨ v.toInt = 1) : (v.toInt = 1 ∧ p_wi b n s.2.2 = 5) ∨ (v.toInt = 0 ∧ p_wi b n s.2.2 ≠ 5) := by
  have key := h.wd (J := 5) (W := [99, 111, 97, 108]) w rfl (by decide)
  have k2 : (rv M o 17 = 3 ∧ rv M o 15 - rv M o 16 = 4 ∧ ra M o 13 ((rv M o 16).toNat + 0) = 99 ∧ ra M o 13 ((rv M o 16).toNat + 1) = 111 ∧ ra M o 13 ((rv M o 16).toNat + 2) = 97 ∧ ra M o 13 ((rv M o 16).toNat + 3) = 108) ↔ p_wi b n s.2.2 = 5 := by
    refine Iff.trans ⟨fun h9 => ?_, fun h9 => ?_⟩ key
    · obtain ⟨h1, h2, h3, h4, h5, h6⟩ := h9
      refine ⟨h1, h2, fun i hi => ?_⟩
      match i, hi with
      | 0, _ => exact h3
      | 1, _ => exact h4
      | 2, _ => exact h5
      | 3, _ => exact h6
    · exact ⟨h9.1, h9.2.1, h9.2.2 0 (by decide), h9.2.2 1 (by decide), h9.2.2 2 (by decide), h9.2.2 3 (by decide)⟩
  rcases hv with hv | hv
  · exact Or.inr ⟨hv, fun h9 => f0 hv (k2.mpr h9)⟩
  · exact Or.inl ⟨hv, k2.mp (f1 hv)⟩
theorem pO.w_6 (h : pO M o b n na s) (w : s.1 = 0) (f1 : v.toInt = 1 → rv M o 17 = 3 ∧ rv M o 15 - rv M o 16 = 4 ∧ ra M o 13 ((rv M o 16).toNat + 0) = 114 ∧ ra M o 13 ((rv M o 16).toNat + 1) = 101 ∧ ra M o 13 ((rv M o 16).toNat + 2) = 110 ∧ ra M o 13 ((rv M o 16).toNat + 3) = 116) (f0 : v.toInt = 0 → ¬ (rv M o 17 = 3 ∧ rv M o 15 - rv M o 16 = 4 ∧ ra M o 13 ((rv M o 16).toNat + 0) = 114 ∧ ra M o 13 ((rv M o 16).toNat + 1) = 101 ∧ ra M o 13 ((rv M o 16).toNat + 2) = 110 ∧ ra M o 13 ((rv M o 16).toNat + 3) = 116)) (hv : v.toInt = 0 ∨ v.toInt = 1) : (v.toInt = 1 ∧ p_wi b n s.2.2 = 6) ∨ (v.toInt = 0 ∧ p_wi b n s.2.2 ≠ 6) := by
  have key := h.wd (J := 6) (W := [114, 101, 110, 116]) w rfl (by decide)
  have k2 : (rv M o 17 = 3 ∧ rv M o 15 - rv M o 16 = 4 ∧ ra M o 13 ((rv M o 16).toNat + 0) = 114 ∧ ra M o 13 ((rv M o 16).toNat + 1) = 101 ∧ ra M o 13 ((rv M o 16).toNat + 2) = 110 ∧ ra M o 13 ((rv M o 16).toNat + 3) = 116) ↔ p_wi b n s.2.2 = 6 := by
    refine Iff.trans ⟨fun h9 => ?_, fun h9 => ?_⟩ key
    · obtain ⟨h1, h2, h3, h4, h5, h6⟩ := h9
      refine ⟨h1, h2, fun i hi => ?_⟩
      match i, hi with
      | 0, _ => exact h3
      | 1, _ => exact h4
      | 2, _ => exact h5
      | 3, _ => exact h6
    · exact ⟨h9.1, h9.2.1, h9.2.2 0 (by decide), h9.2.2 1 (by decide), h9.2.2 2 (by decide), h9.2.2 3 (by decide)⟩
  rcases hv with hv | hv
  · exact Or.inr ⟨hv, fun h9 => f0 hv (k2.mpr h9)⟩
  · exact Or.inl ⟨hv, k2.mp (f1 hv)⟩
theorem pO.w_7 (h : pO M o b n na s) (w : s.1 = 0) (f1 : v.toInt = 1 → rv M o 17 = 3 ∧ rv M o 15 - rv M o 16 = 4 ∧ ra M o 13 ((rv M o 16).toNat + 0) = 108 ∧ ra M o 13 ((rv M o 16).toNat + 1) = 97 ∧ ra M o 13 ((rv M o 16).toNat + 2) = 107 ∧ ra M o 13 ((rv M o 16).toNat + 3) = 101) (f0 : v.toInt = 0 → ¬ (rv M o 17 = 3 ∧ rv M o 15 - rv M o 16 = 4 ∧ ra M o 13 ((rv M o 16).toNat + 0) = 108 ∧ ra M o 13 ((rv M o 16).toNat + 1) = 97 ∧ ra M o 13 ((rv M o 16).toNat + 2) = 107 ∧ ra M o 13 ((rv M o 16).toNat + 3) = 101)) (hv : v.toInt = 0 ∨ v.toInt = 1) : (v.toInt = 1 ∧ p_wi b n s.2.2 = 7) ∨ (v.toInt = 0 ∧ p_wi b n s.2.2 ≠ 7) := by
  have key := h.wd (J := 7) (W := [108, 97, 107, 101]) w rfl (by decide)
  have k2 : (rv M o 17 = 3 ∧ rv M o 15 - rv M o 16 = 4 ∧ ra M o 13 ((rv M o 16).toNat + 0) = 108 ∧ ra M o 13 ((rv M o 16).toNat + 1) = 97 ∧ ra M o 13 ((rv M o 16).toNat + 2) = 107 ∧ ra M o 13 ((rv M o 16).toNat + 3) = 101) ↔ p_wi b n s.2.2 = 7 := by
    refine Iff.trans ⟨fun h9 => ?_, fun h9 => ?_⟩ key
    · obtain ⟨h1, h2, h3, h4, h5, h6⟩ := h9
      refine ⟨h1, h2, fun i hi => ?_⟩
      match i, hi with
      | 0, _ => exact h3
      | 1, _ => exact h4
      | 2, _ => exact h5
      | 3, _ => exact h6
    · exact ⟨h9.1, h9.2.1, h9.2.2 0 (by decide), h9.2.2 1 (by decide), h9.2.2 2 (by decide), h9.2.2 3 (by decide)⟩
  rcases hv with hv | hv
  · exact Or.inr ⟨hv, fun h9 => f0 hv (k2.mpr h9)⟩
  · exact Or.inl ⟨hv, k2.mp (f1 hv)⟩
theorem pO.w_8 (h : pO M o b n na s) (w : s.1 = 0) (f1 : v.toInt = 1 → rv M o 17 = 3 ∧ rv M o 15 - rv M o 16 = 6 ∧ ra M o 13 ((rv M o 16).toNat + 0) = 105 ∧ ra M o 13 ((rv M o 16).toNat + 1) = 110 ∧ ra M o 13 ((rv M o 16).toNat + 2) = 99 ∧ ra M o 13 ((rv M o 16).toNat + 3) = 111 ∧ ra M o 13 ((rv M o 16).toNat + 4) = 109 ∧ ra M o 13 ((rv M o 16).toNat + 5) = 101) (f0 : v.toInt = 0 → ¬ (rv M o 17 = 3 ∧ rv M o 15 - rv M o 16 = 6 ∧ ra M o 13 ((rv M o 16).toNat + 0) = 105 ∧ ra M o 13 ((rv M o 16).toNat + 1) = 110 ∧ ra M o 13 ((rv M o 16).toNat + 2) = 99 ∧ ra M o 13 ((rv M o 16).toNat + 3) = 111 ∧ ra M o 13 ((rv M o 16).toNat + 4) = 109 ∧ ra M o 13 ((rv M o 16).toNat + 5) = 101)) (hv : v.toInt = 0 ∨ v.toInt = 1) : (v.toInt = 1 ∧ p_wi b n s.2.2 = 8) ∨ (v.toInt = 0 ∧ p_wi b n s.2.2 ≠ 8) := by
  have key := h.wd (J := 8) (W := [105, 110, 99, 111, 109, 101]) w rfl (by decide)
  have k2 : (rv M o 17 = 3 ∧ rv M o 15 - rv M o 16 = 6 ∧ ra M o 13 ((rv M o 16).toNat + 0) = 105 ∧ ra M o 13 ((rv M o 16).toNat + 1) = 110 ∧ ra M o 13 ((rv M o 16).toNat + 2) = 99 ∧ ra M o 13 ((rv M o 16).toNat + 3) = 111 ∧ ra M o 13 ((rv M o 16).toNat + 4) = 109 ∧ ra M o 13 ((rv M o 16).toNat + 5) = 101) ↔ p_wi b n s.2.2 = 8 := by
    refine Iff.trans ⟨fun h9 => ?_, fun h9 => ?_⟩ key
    · obtain ⟨h1, h2, h3, h4, h5, h6, h7, h8⟩ := h9
      refine ⟨h1, h2, fun i hi => ?_⟩
      match i, hi with
      | 0, _ => exact h3
      | 1, _ => exact h4
      | 2, _ => exact h5
      | 3, _ => exact h6
      | 4, _ => exact h7
      | 5, _ => exact h8
    · exact ⟨h9.1, h9.2.1, h9.2.2 0 (by decide), h9.2.2 1 (by decide), h9.2.2 2 (by decide), h9.2.2 3 (by decide), h9.2.2 4 (by decide), h9.2.2 5 (by decide)⟩
  rcases hv with hv | hv
  · exact Or.inr ⟨hv, fun h9 => f0 hv (k2.mpr h9)⟩
  · exact Or.inl ⟨hv, k2.mp (f1 hv)⟩
theorem pO.w_9 (h : pO M o b n na s) (w : s.1 = 0) (f1 : v.toInt = 1 → rv M o 17 = 3 ∧ rv M o 15 - rv M o 16 = 4 ∧ ra M o 13 ((rv M o 16).toNat + 0) = 99 ∧ ra M o 13 ((rv M o 16).toNat + 1) = 111 ∧ ra M o 13 ((rv M o 16).toNat + 2) = 105 ∧ ra M o 13 ((rv M o 16).toNat + 3) = 110) (f0 : v.toInt = 0 → ¬ (rv M o 17 = 3 ∧ rv M o 15 - rv M o 16 = 4 ∧ ra M o 13 ((rv M o 16).toNat + 0) = 99 ∧ ra M o 13 ((rv M o 16).toNat + 1) = 111 ∧ ra M o 13 ((rv M o 16).toNat + 2) = 105 ∧ ra M o 13 ((rv M o 16).toNat + 3) = 110)) (hv : v.toInt = 0 ∨ v.toInt = 1) : (v.toInt = 1 ∧ p_wi b n s.2.2 = 9) ∨ (v.toInt = 0 ∧ p_wi b n s.2.2 ≠ 9) := by
  have key := h.wd (J := 9) (W := [99, 111, 105, 110]) w rfl (by decide)
  have k2 : (rv M o 17 = 3 ∧ rv M o 15 - rv M o 16 = 4 ∧ ra M o 13 ((rv M o 16).toNat + 0) = 99 ∧ ra M o 13 ((rv M o 16).toNat + 1) = 111 ∧ ra M o 13 ((rv M o 16).toNat + 2) = 105 ∧ ra M o 13 ((rv M o 16).toNat + 3) = 110) ↔ p_wi b n s.2.2 = 9 := by
    refine Iff.trans ⟨fun h9 => ?_, fun h9 => ?_⟩ key
    · obtain ⟨h1, h2, h3, h4, h5, h6⟩ := h9
      refine ⟨h1, h2, fun i hi => ?_⟩
      match i, hi with
      | 0, _ => exact h3
      | 1, _ => exact h4
      | 2, _ => exact h5
      | 3, _ => exact h6
    · exact ⟨h9.1, h9.2.1, h9.2.2 0 (by decide), h9.2.2 1 (by decide), h9.2.2 2 (by decide), h9.2.2 3 (by decide)⟩
  rcases hv with hv | hv
  · exact Or.inr ⟨hv, fun h9 => f0 hv (k2.mpr h9)⟩
  · exact Or.inl ⟨hv, k2.mp (f1 hv)⟩
theorem pO.w_10 (h : pO M o b n na s) (w : s.1 = 0) (f1 : v.toInt = 1 → rv M o 17 = 3 ∧ rv M o 15 - rv M o 16 = 6 ∧ ra M o 13 ((rv M o 16).toNat + 0) = 108 ∧ ra M o 13 ((rv M o 16).toNat + 1) = 105 ∧ ra M o 13 ((rv M o 16).toNat + 2) = 118 ∧ ra M o 13 ((rv M o 16).toNat + 3) = 105 ∧ ra M o 13 ((rv M o 16).toNat + 4) = 110 ∧ ra M o 13 ((rv M o 16).toNat + 5) = 103) (f0 : v.toInt = 0 → ¬ (rv M o 17 = 3 ∧ rv M o 15 - rv M o 16 = 6 ∧ ra M o 13 ((rv M o 16).toNat + 0) = 108 ∧ ra M o 13 ((rv M o 16).toNat + 1) = 105 ∧ ra M o 13 ((rv M o 16).toNat + 2) = 118 ∧ ra M o 13 ((rv M o 16).toNat + 3) = 105 ∧ ra M o 13 ((rv M o 16).toNat + 4) = 110 ∧ ra M o 13 ((rv M o 16).toNat + 5) = 103)) (hv : v.toInt = 0 ∨ v.toInt = 1) : (v.toInt = 1 ∧ p_wi b n s.2.2 = 10) ∨ (v.toInt = 0 ∧ p_wi b n s.2.2 ≠ 10) := by
  have key := h.wd (J := 10) (W := [108, 105, 118, 105, 110, 103]) w rfl (by decide)
  have k2 : (rv M o 17 = 3 ∧ rv M o 15 - rv M o 16 = 6 ∧ ra M o 13 ((rv M o 16).toNat + 0) = 108 ∧ ra M o 13 ((rv M o 16).toNat + 1) = 105 ∧ ra M o 13 ((rv M o 16).toNat + 2) = 118 ∧ ra M o 13 ((rv M o 16).toNat + 3) = 105 ∧ ra M o 13 ((rv M o 16).toNat + 4) = 110 ∧ ra M o 13 ((rv M o 16).toNat + 5) = 103) ↔ p_wi b n s.2.2 = 10 := by
    refine Iff.trans ⟨fun h9 => ?_, fun h9 => ?_⟩ key
    · obtain ⟨h1, h2, h3, h4, h5, h6, h7, h8⟩ := h9
      refine ⟨h1, h2, fun i hi => ?_⟩
      match i, hi with
      | 0, _ => exact h3
      | 1, _ => exact h4
      | 2, _ => exact h5
      | 3, _ => exact h6
      | 4, _ => exact h7
      | 5, _ => exact h8
    · exact ⟨h9.1, h9.2.1, h9.2.2 0 (by decide), h9.2.2 1 (by decide), h9.2.2 2 (by decide), h9.2.2 3 (by decide), h9.2.2 4 (by decide), h9.2.2 5 (by decide)⟩
  rcases hv with hv | hv
  · exact Or.inr ⟨hv, fun h9 => f0 hv (k2.mpr h9)⟩
  · exact Or.inl ⟨hv, k2.mp (f1 hv)⟩
theorem pO.w_11 (h : pO M o b n na s) (w : s.1 = 0) (f1 : v.toInt = 1 → rv M o 17 = 3 ∧ rv M o 15 - rv M o 16 = 4 ∧ ra M o 13 ((rv M o 16).toNat + 0) = 100 ∧ ra M o 13 ((rv M o 16).toNat + 1) = 101 ∧ ra M o 13 ((rv M o 16).toNat + 2) = 97 ∧ ra M o 13 ((rv M o 16).toNat + 3) = 100) (f0 : v.toInt = 0 → ¬ (rv M o 17 = 3 ∧ rv M o 15 - rv M o 16 = 4 ∧ ra M o 13 ((rv M o 16).toNat + 0) = 100 ∧ ra M o 13 ((rv M o 16).toNat + 1) = 101 ∧ ra M o 13 ((rv M o 16).toNat + 2) = 97 ∧ ra M o 13 ((rv M o 16).toNat + 3) = 100)) (hv : v.toInt = 0 ∨ v.toInt = 1) : (v.toInt = 1 ∧ p_wi b n s.2.2 = 11) ∨ (v.toInt = 0 ∧ p_wi b n s.2.2 ≠ 11) := by
  have key := h.wd (J := 11) (W := [100, 101, 97, 100]) w rfl (by decide)
  have k2 : (rv M o 17 = 3 ∧ rv M o 15 - rv M o 16 = 4 ∧ ra M o 13 ((rv M o 16).toNat + 0) = 100 ∧ ra M o 13 ((rv M o 16).toNat + 1) = 101 ∧ ra M o 13 ((rv M o 16).toNat + 2) = 97 ∧ ra M o 13 ((rv M o 16).toNat + 3) = 100) ↔ p_wi b n s.2.2 = 11 := by
    refine Iff.trans ⟨fun h9 => ?_, fun h9 => ?_⟩ key
    · obtain ⟨h1, h2, h3, h4, h5, h6⟩ := h9
      refine ⟨h1, h2, fun i hi => ?_⟩
      match i, hi with
      | 0, _ => exact h3
      | 1, _ => exact h4
      | 2, _ => exact h5
      | 3, _ => exact h6
    · exact ⟨h9.1, h9.2.1, h9.2.2 0 (by decide), h9.2.2 1 (by decide), h9.2.2 2 (by decide), h9.2.2 3 (by decide)⟩
  rcases hv with hv | hv
  · exact Or.inr ⟨hv, fun h9 => f0 hv (k2.mpr h9)⟩
  · exact Or.inl ⟨hv, k2.mp (f1 hv)⟩
theorem pO.w_12 (h : pO M o b n na s) (w : s.1 = 0) (f1 : v.toInt = 1 → rv M o 17 = 3 ∧ rv M o 15 - rv M o 16 = 5 ∧ ra M o 13 ((rv M o 16).toNat + 0) = 109 ∧ ra M o 13 ((rv M o 16).toNat + 1) = 97 ∧ ra M o 13 ((rv M o 16).toNat + 2) = 114 ∧ ra M o 13 ((rv M o 16).toNat + 3) = 107 ∧ ra M o 13 ((rv M o 16).toNat + 4) = 115) (f0 : v.toInt = 0 → ¬ (rv M o 17 = 3 ∧ rv M o 15 - rv M o 16 = 5 ∧ ra M o 13 ((rv M o 16).toNat + 0) = 109 ∧ ra M o 13 ((rv M o 16).toNat + 1) = 97 ∧ ra M o 13 ((rv M o 16).toNat + 2) = 114 ∧ ra M o 13 ((rv M o 16).toNat + 3) = 107 ∧ ra M o 13 ((rv M o 16).toNat + 4) = 115)) (hv : v.toInt = 0 ∨ v.toInt = 1) : (v.toInt = 1 ∧ p_wi b n s.2.2 = 12) ∨ (v.toInt = 0 ∧ p_wi b n s.2.2 ≠ 12) := by
  have key := h.wd (J := 12) (W := [109, 97, 114, 107, 115]) w rfl (by decide)
  have k2 : (rv M o 17 = 3 ∧ rv M o 15 - rv M o 16 = 5 ∧ ra M o 13 ((rv M o 16).toNat + 0) = 109 ∧ ra M o 13 ((rv M o 16).toNat + 1) = 97 ∧ ra M o 13 ((rv M o 16).toNat + 2) = 114 ∧ ra M o 13 ((rv M o 16).toNat + 3) = 107 ∧ ra M o 13 ((rv M o 16).toNat + 4) = 115) ↔ p_wi b n s.2.2 = 12 := by
    refine Iff.trans ⟨fun h9 => ?_, fun h9 => ?_⟩ key
    · obtain ⟨h1, h2, h3, h4, h5, h6, h7⟩ := h9
      refine ⟨h1, h2, fun i hi => ?_⟩
      match i, hi with
      | 0, _ => exact h3
      | 1, _ => exact h4
      | 2, _ => exact h5
      | 3, _ => exact h6
      | 4, _ => exact h7
    · exact ⟨h9.1, h9.2.1, h9.2.2 0 (by decide), h9.2.2 1 (by decide), h9.2.2 2 (by decide), h9.2.2 3 (by decide), h9.2.2 4 (by decide)⟩
  rcases hv with hv | hv
  · exact Or.inr ⟨hv, fun h9 => f0 hv (k2.mpr h9)⟩
  · exact Or.inl ⟨hv, k2.mp (f1 hv)⟩
theorem pO.w_13 (h : pO M o b n na s) (w : s.1 = 0) (f1 : v.toInt = 1 → rv M o 17 = 3 ∧ rv M o 15 - rv M o 16 = 4 ∧ ra M o 13 ((rv M o 16).toNat + 0) = 102 ∧ ra M o 13 ((rv M o 16).toNat + 1) = 97 ∧ ra M o 13 ((rv M o 16).toNat + 2) = 105 ∧ ra M o 13 ((rv M o 16).toNat + 3) = 108) (f0 : v.toInt = 0 → ¬ (rv M o 17 = 3 ∧ rv M o 15 - rv M o 16 = 4 ∧ ra M o 13 ((rv M o 16).toNat + 0) = 102 ∧ ra M o 13 ((rv M o 16).toNat + 1) = 97 ∧ ra M o 13 ((rv M o 16).toNat + 2) = 105 ∧ ra M o 13 ((rv M o 16).toNat + 3) = 108)) (hv : v.toInt = 0 ∨ v.toInt = 1) : (v.toInt = 1 ∧ p_wi b n s.2.2 = 13) ∨ (v.toInt = 0 ∧ p_wi b n s.2.2 ≠ 13) := by
  have key := h.wd (J := 13) (W := [102, 97, 105, 108]) w rfl (by decide)
  have k2 : (rv M o 17 = 3 ∧ rv M o 15 - rv M o 16 = 4 ∧ ra M o 13 ((rv M o 16).toNat + 0) = 102 ∧ ra M o 13 ((rv M o 16).toNat + 1) = 97 ∧ ra M o 13 ((rv M o 16).toNat + 2) = 105 ∧ ra M o 13 ((rv M o 16).toNat + 3) = 108) ↔ p_wi b n s.2.2 = 13 := by
    refine Iff.trans ⟨fun h9 => ?_, fun h9 => ?_⟩ key
    · obtain ⟨h1, h2, h3, h4, h5, h6⟩ := h9
      refine ⟨h1, h2, fun i hi => ?_⟩
      match i, hi with
      | 0, _ => exact h3
      | 1, _ => exact h4
      | 2, _ => exact h5
      | 3, _ => exact h6
    · exact ⟨h9.1, h9.2.1, h9.2.2 0 (by decide), h9.2.2 1 (by decide), h9.2.2 2 (by decide), h9.2.2 3 (by decide)⟩
  rcases hv with hv | hv
  · exact Or.inr ⟨hv, fun h9 => f0 hv (k2.mpr h9)⟩
  · exact Or.inl ⟨hv, k2.mp (f1 hv)⟩
theorem pO.w_14 (h : pO M o b n na s) (w : s.1 = 0) (f1 : v.toInt = 1 → rv M o 17 = 3 ∧ rv M o 15 - rv M o 16 = 4 ∧ ra M o 13 ((rv M o 16).toNat + 0) = 107 ∧ ra M o 13 ((rv M o 16).toNat + 1) = 101 ∧ ra M o 13 ((rv M o 16).toNat + 2) = 101 ∧ ra M o 13 ((rv M o 16).toNat + 3) = 112) (f0 : v.toInt = 0 → ¬ (rv M o 17 = 3 ∧ rv M o 15 - rv M o 16 = 4 ∧ ra M o 13 ((rv M o 16).toNat + 0) = 107 ∧ ra M o 13 ((rv M o 16).toNat + 1) = 101 ∧ ra M o 13 ((rv M o 16).toNat + 2) = 101 ∧ ra M o 13 ((rv M o 16).toNat + 3) = 112)) (hv : v.toInt = 0 ∨ v.toInt = 1) : (v.toInt = 1 ∧ p_wi b n s.2.2 = 14) ∨ (v.toInt = 0 ∧ p_wi b n s.2.2 ≠ 14) := by
  have key := h.wd (J := 14) (W := [107, 101, 101, 112]) w rfl (by decide)
  have k2 : (rv M o 17 = 3 ∧ rv M o 15 - rv M o 16 = 4 ∧ ra M o 13 ((rv M o 16).toNat + 0) = 107 ∧ ra M o 13 ((rv M o 16).toNat + 1) = 101 ∧ ra M o 13 ((rv M o 16).toNat + 2) = 101 ∧ ra M o 13 ((rv M o 16).toNat + 3) = 112) ↔ p_wi b n s.2.2 = 14 := by
    refine Iff.trans ⟨fun h9 => ?_, fun h9 => ?_⟩ key
    · obtain ⟨h1, h2, h3, h4, h5, h6⟩ := h9
      refine ⟨h1, h2, fun i hi => ?_⟩
      match i, hi with
      | 0, _ => exact h3
      | 1, _ => exact h4
      | 2, _ => exact h5
      | 3, _ => exact h6
    · exact ⟨h9.1, h9.2.1, h9.2.2 0 (by decide), h9.2.2 1 (by decide), h9.2.2 2 (by decide), h9.2.2 3 (by decide)⟩
  rcases hv with hv | hv
  · exact Or.inr ⟨hv, fun h9 => f0 hv (k2.mpr h9)⟩
  · exact Or.inl ⟨hv, k2.mp (f1 hv)⟩
theorem pO.w_15 (h : pO M o b n na s) (w : s.1 = 0) (f1 : v.toInt = 1 → rv M o 17 = 3 ∧ rv M o 15 - rv M o 16 = 4 ∧ ra M o 13 ((rv M o 16).toNat + 0) = 100 ∧ ra M o 13 ((rv M o 16).toNat + 1) = 97 ∧ ra M o 13 ((rv M o 16).toNat + 2) = 121 ∧ ra M o 13 ((rv M o 16).toNat + 3) = 115) (f0 : v.toInt = 0 → ¬ (rv M o 17 = 3 ∧ rv M o 15 - rv M o 16 = 4 ∧ ra M o 13 ((rv M o 16).toNat + 0) = 100 ∧ ra M o 13 ((rv M o 16).toNat + 1) = 97 ∧ ra M o 13 ((rv M o 16).toNat + 2) = 121 ∧ ra M o 13 ((rv M o 16).toNat + 3) = 115)) (hv : v.toInt = 0 ∨ v.toInt = 1) : (v.toInt = 1 ∧ p_wi b n s.2.2 = 15) ∨ (v.toInt = 0 ∧ p_wi b n s.2.2 ≠ 15) := by
  have key := h.wd (J := 15) (W := [100, 97, 121, 115]) w rfl (by decide)
  have k2 : (rv M o 17 = 3 ∧ rv M o 15 - rv M o 16 = 4 ∧ ra M o 13 ((rv M o 16).toNat + 0) = 100 ∧ ra M o 13 ((rv M o 16).toNat + 1) = 97 ∧ ra M o 13 ((rv M o 16).toNat + 2) = 121 ∧ ra M o 13 ((rv M o 16).toNat + 3) = 115) ↔ p_wi b n s.2.2 = 15 := by
    refine Iff.trans ⟨fun h9 => ?_, fun h9 => ?_⟩ key
    · obtain ⟨h1, h2, h3, h4, h5, h6⟩ := h9
      refine ⟨h1, h2, fun i hi => ?_⟩
      match i, hi with
      | 0, _ => exact h3
      | 1, _ => exact h4
      | 2, _ => exact h5
      | 3, _ => exact h6
    · exact ⟨h9.1, h9.2.1, h9.2.2 0 (by decide), h9.2.2 1 (by decide), h9.2.2 2 (by decide), h9.2.2 3 (by decide)⟩
  rcases hv with hv | hv
  · exact Or.inr ⟨hv, fun h9 => f0 hv (k2.mpr h9)⟩
  · exact Or.inl ⟨hv, k2.mp (f1 hv)⟩
theorem pO.w_16 (h : pO M o b n na s) (w : s.1 = 0) (f1 : v.toInt = 1 → rv M o 17 = 3 ∧ rv M o 15 - rv M o 16 = 4 ∧ ra M o 13 ((rv M o 16).toNat + 0) = 108 ∧ ra M o 13 ((rv M o 16).toNat + 1) = 97 ∧ ra M o 13 ((rv M o 16).toNat + 2) = 116 ∧ ra M o 13 ((rv M o 16).toNat + 3) = 101) (f0 : v.toInt = 0 → ¬ (rv M o 17 = 3 ∧ rv M o 15 - rv M o 16 = 4 ∧ ra M o 13 ((rv M o 16).toNat + 0) = 108 ∧ ra M o 13 ((rv M o 16).toNat + 1) = 97 ∧ ra M o 13 ((rv M o 16).toNat + 2) = 116 ∧ ra M o 13 ((rv M o 16).toNat + 3) = 101)) (hv : v.toInt = 0 ∨ v.toInt = 1) : (v.toInt = 1 ∧ p_wi b n s.2.2 = 16) ∨ (v.toInt = 0 ∧ p_wi b n s.2.2 ≠ 16) := by
  have key := h.wd (J := 16) (W := [108, 97, 116, 101]) w rfl (by decide)
  have k2 : (rv M o 17 = 3 ∧ rv M o 15 - rv M o 16 = 4 ∧ ra M o 13 ((rv M o 16).toNat + 0) = 108 ∧ ra M o 13 ((rv M o 16).toNat + 1) = 97 ∧ ra M o 13 ((rv M o 16).toNat + 2) = 116 ∧ ra M o 13 ((rv M o 16).toNat + 3) = 101) ↔ p_wi b n s.2.2 = 16 := by
    refine Iff.trans ⟨fun h9 => ?_, fun h9 => ?_⟩ key
    · obtain ⟨h1, h2, h3, h4, h5, h6⟩ := h9
      refine ⟨h1, h2, fun i hi => ?_⟩
      match i, hi with
      | 0, _ => exact h3
      | 1, _ => exact h4
      | 2, _ => exact h5
      | 3, _ => exact h6
    · exact ⟨h9.1, h9.2.1, h9.2.2 0 (by decide), h9.2.2 1 (by decide), h9.2.2 2 (by decide), h9.2.2 3 (by decide)⟩
  rcases hv with hv | hv
  · exact Or.inr ⟨hv, fun h9 => f0 hv (k2.mpr h9)⟩
  · exact Or.inl ⟨hv, k2.mp (f1 hv)⟩
theorem pO.w_17 (h : pO M o b n na s) (w : s.1 = 0) (f1 : v.toInt = 1 → rv M o 17 = 3 ∧ rv M o 15 - rv M o 16 = 4 ∧ ra M o 13 ((rv M o 16).toNat + 0) = 103 ∧ ra M o 13 ((rv M o 16).toNat + 1) = 97 ∧ ra M o 13 ((rv M o 16).toNat + 2) = 105 ∧ ra M o 13 ((rv M o 16).toNat + 3) = 110) (f0 : v.toInt = 0 → ¬ (rv M o 17 = 3 ∧ rv M o 15 - rv M o 16 = 4 ∧ ra M o 13 ((rv M o 16).toNat + 0) = 103 ∧ ra M o 13 ((rv M o 16).toNat + 1) = 97 ∧ ra M o 13 ((rv M o 16).toNat + 2) = 105 ∧ ra M o 13 ((rv M o 16).toNat + 3) = 110)) (hv : v.toInt = 0 ∨ v.toInt = 1) : (v.toInt = 1 ∧ p_wi b n s.2.2 = 17) ∨ (v.toInt = 0 ∧ p_wi b n s.2.2 ≠ 17) := by
  have key := h.wd (J := 17) (W := [103, 97, 105, 110]) w rfl (by decide)
  have k2 : (rv M o 17 = 3 ∧ rv M o 15 - rv M o 16 = 4 ∧ ra M o 13 ((rv M o 16).toNat + 0) = 103 ∧ ra M o 13 ((rv M o 16).toNat + 1) = 97 ∧ ra M o 13 ((rv M o 16).toNat + 2) = 105 ∧ ra M o 13 ((rv M o 16).toNat + 3) = 110) ↔ p_wi b n s.2.2 = 17 := by
    refine Iff.trans ⟨fun h9 => ?_, fun h9 => ?_⟩ key
    · obtain ⟨h1, h2, h3, h4, h5, h6⟩ := h9
      refine ⟨h1, h2, fun i hi => ?_⟩
      match i, hi with
      | 0, _ => exact h3
      | 1, _ => exact h4
      | 2, _ => exact h5
      | 3, _ => exact h6
    · exact ⟨h9.1, h9.2.1, h9.2.2 0 (by decide), h9.2.2 1 (by decide), h9.2.2 2 (by decide), h9.2.2 3 (by decide)⟩
  rcases hv with hv | hv
  · exact Or.inr ⟨hv, fun h9 => f0 hv (k2.mpr h9)⟩
  · exact Or.inl ⟨hv, k2.mp (f1 hv)⟩
theorem pO.w_18 (h : pO M o b n na s) (w : s.1 = 0) (f1 : v.toInt = 1 → rv M o 17 = 3 ∧ rv M o 15 - rv M o 16 = 4 ∧ ra M o 13 ((rv M o 16).toNat + 0) = 115 ∧ ra M o 13 ((rv M o 16).toNat + 1) = 101 ∧ ra M o 13 ((rv M o 16).toNat + 2) = 108 ∧ ra M o 13 ((rv M o 16).toNat + 3) = 108) (f0 : v.toInt = 0 → ¬ (rv M o 17 = 3 ∧ rv M o 15 - rv M o 16 = 4 ∧ ra M o 13 ((rv M o 16).toNat + 0) = 115 ∧ ra M o 13 ((rv M o 16).toNat + 1) = 101 ∧ ra M o 13 ((rv M o 16).toNat + 2) = 108 ∧ ra M o 13 ((rv M o 16).toNat + 3) = 108)) (hv : v.toInt = 0 ∨ v.toInt = 1) : (v.toInt = 1 ∧ p_wi b n s.2.2 = 18) ∨ (v.toInt = 0 ∧ p_wi b n s.2.2 ≠ 18) := by
  have key := h.wd (J := 18) (W := [115, 101, 108, 108]) w rfl (by decide)
  have k2 : (rv M o 17 = 3 ∧ rv M o 15 - rv M o 16 = 4 ∧ ra M o 13 ((rv M o 16).toNat + 0) = 115 ∧ ra M o 13 ((rv M o 16).toNat + 1) = 101 ∧ ra M o 13 ((rv M o 16).toNat + 2) = 108 ∧ ra M o 13 ((rv M o 16).toNat + 3) = 108) ↔ p_wi b n s.2.2 = 18 := by
    refine Iff.trans ⟨fun h9 => ?_, fun h9 => ?_⟩ key
    · obtain ⟨h1, h2, h3, h4, h5, h6⟩ := h9
      refine ⟨h1, h2, fun i hi => ?_⟩
      match i, hi with
      | 0, _ => exact h3
      | 1, _ => exact h4
      | 2, _ => exact h5
      | 3, _ => exact h6
    · exact ⟨h9.1, h9.2.1, h9.2.2 0 (by decide), h9.2.2 1 (by decide), h9.2.2 2 (by decide), h9.2.2 3 (by decide)⟩
  rcases hv with hv | hv
  · exact Or.inr ⟨hv, fun h9 => f0 hv (k2.mpr h9)⟩
  · exact Or.inl ⟨hv, k2.mp (f1 hv)⟩
theorem pO.w_19 (h : pO M o b n na s) (w : s.1 = 0) (f1 : v.toInt = 1 → rv M o 17 = 3 ∧ rv M o 15 - rv M o 16 = 4 ∧ ra M o 13 ((rv M o 16).toNat + 0) = 110 ∧ ra M o 13 ((rv M o 16).toNat + 1) = 101 ∧ ra M o 13 ((rv M o 16).toNat + 2) = 97 ∧ ra M o 13 ((rv M o 16).toNat + 3) = 114) (f0 : v.toInt = 0 → ¬ (rv M o 17 = 3 ∧ rv M o 15 - rv M o 16 = 4 ∧ ra M o 13 ((rv M o 16).toNat + 0) = 110 ∧ ra M o 13 ((rv M o 16).toNat + 1) = 101 ∧ ra M o 13 ((rv M o 16).toNat + 2) = 97 ∧ ra M o 13 ((rv M o 16).toNat + 3) = 114)) (hv : v.toInt = 0 ∨ v.toInt = 1) : (v.toInt = 1 ∧ p_wi b n s.2.2 = 19) ∨ (v.toInt = 0 ∧ p_wi b n s.2.2 ≠ 19) := by
  have key := h.wd (J := 19) (W := [110, 101, 97, 114]) w rfl (by decide)
  have k2 : (rv M o 17 = 3 ∧ rv M o 15 - rv M o 16 = 4 ∧ ra M o 13 ((rv M o 16).toNat + 0) = 110 ∧ ra M o 13 ((rv M o 16).toNat + 1) = 101 ∧ ra M o 13 ((rv M o 16).toNat + 2) = 97 ∧ ra M o 13 ((rv M o 16).toNat + 3) = 114) ↔ p_wi b n s.2.2 = 19 := by
    refine Iff.trans ⟨fun h9 => ?_, fun h9 => ?_⟩ key
    · obtain ⟨h1, h2, h3, h4, h5, h6⟩ := h9
      refine ⟨h1, h2, fun i hi => ?_⟩
      match i, hi with
      | 0, _ => exact h3
      | 1, _ => exact h4
      | 2, _ => exact h5
      | 3, _ => exact h6
    · exact ⟨h9.1, h9.2.1, h9.2.2 0 (by decide), h9.2.2 1 (by decide), h9.2.2 2 (by decide), h9.2.2 3 (by decide)⟩
  rcases hv with hv | hv
  · exact Or.inr ⟨hv, fun h9 => f0 hv (k2.mpr h9)⟩
  · exact Or.inl ⟨hv, k2.mp (f1 hv)⟩
theorem pO.w_20 (h : pO M o b n na s) (w : s.1 = 0) (f1 : v.toInt = 1 → rv M o 17 = 3 ∧ rv M o 15 - rv M o 16 = 4 ∧ ra M o 13 ((rv M o 16).toNat + 0) = 106 ∧ ra M o 13 ((rv M o 16).toNat + 1) = 111 ∧ ra M o 13 ((rv M o 16).toNat + 2) = 105 ∧ ra M o 13 ((rv M o 16).toNat + 3) = 110) (f0 : v.toInt = 0 → ¬ (rv M o 17 = 3 ∧ rv M o 15 - rv M o 16 = 4 ∧ ra M o 13 ((rv M o 16).toNat + 0) = 106 ∧ ra M o 13 ((rv M o 16).toNat + 1) = 111 ∧ ra M o 13 ((rv M o 16).toNat + 2) = 105 ∧ ra M o 13 ((rv M o 16).toNat + 3) = 110)) (hv : v.toInt = 0 ∨ v.toInt = 1) : (v.toInt = 1 ∧ p_wi b n s.2.2 = 20) ∨ (v.toInt = 0 ∧ p_wi b n s.2.2 ≠ 20) := by
  have key := h.wd (J := 20) (W := [106, 111, 105, 110]) w rfl (by decide)
  have k2 : (rv M o 17 = 3 ∧ rv M o 15 - rv M o 16 = 4 ∧ ra M o 13 ((rv M o 16).toNat + 0) = 106 ∧ ra M o 13 ((rv M o 16).toNat + 1) = 111 ∧ ra M o 13 ((rv M o 16).toNat + 2) = 105 ∧ ra M o 13 ((rv M o 16).toNat + 3) = 110) ↔ p_wi b n s.2.2 = 20 := by
    refine Iff.trans ⟨fun h9 => ?_, fun h9 => ?_⟩ key
    · obtain ⟨h1, h2, h3, h4, h5, h6⟩ := h9
      refine ⟨h1, h2, fun i hi => ?_⟩
      match i, hi with
      | 0, _ => exact h3
      | 1, _ => exact h4
      | 2, _ => exact h5
      | 3, _ => exact h6
    · exact ⟨h9.1, h9.2.1, h9.2.2 0 (by decide), h9.2.2 1 (by decide), h9.2.2 2 (by decide), h9.2.2 3 (by decide)⟩
  rcases hv with hv | hv
  · exact Or.inr ⟨hv, fun h9 => f0 hv (k2.mpr h9)⟩
  · exact Or.inl ⟨hv, k2.mp (f1 hv)⟩
theorem pO.w_21 (h : pO M o b n na s) (w : s.1 = 0) (f1 : v.toInt = 1 → rv M o 17 = 3 ∧ rv M o 15 - rv M o 16 = 4 ∧ ra M o 13 ((rv M o 16).toNat + 0) = 115 ∧ ra M o 13 ((rv M o 16).toNat + 1) = 97 ∧ ra M o 13 ((rv M o 16).toNat + 2) = 108 ∧ ra M o 13 ((rv M o 16).toNat + 3) = 101) (f0 : v.toInt = 0 → ¬ (rv M o 17 = 3 ∧ rv M o 15 - rv M o 16 = 4 ∧ ra M o 13 ((rv M o 16).toNat + 0) = 115 ∧ ra M o 13 ((rv M o 16).toNat + 1) = 97 ∧ ra M o 13 ((rv M o 16).toNat + 2) = 108 ∧ ra M o 13 ((rv M o 16).toNat + 3) = 101)) (hv : v.toInt = 0 ∨ v.toInt = 1) : (v.toInt = 1 ∧ p_wi b n s.2.2 = 21) ∨ (v.toInt = 0 ∧ p_wi b n s.2.2 ≠ 21) := by
  have key := h.wd (J := 21) (W := [115, 97, 108, 101]) w rfl (by decide)
  have k2 : (rv M o 17 = 3 ∧ rv M o 15 - rv M o 16 = 4 ∧ ra M o 13 ((rv M o 16).toNat + 0) = 115 ∧ ra M o 13 ((rv M o 16).toNat + 1) = 97 ∧ ra M o 13 ((rv M o 16).toNat + 2) = 108 ∧ ra M o 13 ((rv M o 16).toNat + 3) = 101) ↔ p_wi b n s.2.2 = 21 := by
    refine Iff.trans ⟨fun h9 => ?_, fun h9 => ?_⟩ key
    · obtain ⟨h1, h2, h3, h4, h5, h6⟩ := h9
      refine ⟨h1, h2, fun i hi => ?_⟩
      match i, hi with
      | 0, _ => exact h3
      | 1, _ => exact h4
      | 2, _ => exact h5
      | 3, _ => exact h6
    · exact ⟨h9.1, h9.2.1, h9.2.2 0 (by decide), h9.2.2 1 (by decide), h9.2.2 2 (by decide), h9.2.2 3 (by decide)⟩
  rcases hv with hv | hv
  · exact Or.inr ⟨hv, fun h9 => f0 hv (k2.mpr h9)⟩
  · exact Or.inl ⟨hv, k2.mp (f1 hv)⟩
theorem pO.w_22 (h : pO M o b n na s) (w : s.1 = 0) (f1 : v.toInt = 1 → rv M o 17 = 3 ∧ rv M o 15 - rv M o 16 = 6 ∧ ra M o 13 ((rv M o 16).toNat + 0) = 115 ∧ ra M o 13 ((rv M o 16).toNat + 1) = 116 ∧ ra M o 13 ((rv M o 16).toNat + 2) = 114 ∧ ra M o 13 ((rv M o 16).toNat + 3) = 105 ∧ ra M o 13 ((rv M o 16).toNat + 4) = 107 ∧ ra M o 13 ((rv M o 16).toNat + 5) = 101) (f0 : v.toInt = 0 → ¬ (rv M o 17 = 3 ∧ rv M o 15 - rv M o 16 = 6 ∧ ra M o 13 ((rv M o 16).toNat + 0) = 115 ∧ ra M o 13 ((rv M o 16).toNat + 1) = 116 ∧ ra M o 13 ((rv M o 16).toNat + 2) = 114 ∧ ra M o 13 ((rv M o 16).toNat + 3) = 105 ∧ ra M o 13 ((rv M o 16).toNat + 4) = 107 ∧ ra M o 13 ((rv M o 16).toNat + 5) = 101)) (hv : v.toInt = 0 ∨ v.toInt = 1) : (v.toInt = 1 ∧ p_wi b n s.2.2 = 22) ∨ (v.toInt = 0 ∧ p_wi b n s.2.2 ≠ 22) := by
  have key := h.wd (J := 22) (W := [115, 116, 114, 105, 107, 101]) w rfl (by decide)
  have k2 : (rv M o 17 = 3 ∧ rv M o 15 - rv M o 16 = 6 ∧ ra M o 13 ((rv M o 16).toNat + 0) = 115 ∧ ra M o 13 ((rv M o 16).toNat + 1) = 116 ∧ ra M o 13 ((rv M o 16).toNat + 2) = 114 ∧ ra M o 13 ((rv M o 16).toNat + 3) = 105 ∧ ra M o 13 ((rv M o 16).toNat + 4) = 107 ∧ ra M o 13 ((rv M o 16).toNat + 5) = 101) ↔ p_wi b n s.2.2 = 22 := by
    refine Iff.trans ⟨fun h9 => ?_, fun h9 => ?_⟩ key
    · obtain ⟨h1, h2, h3, h4, h5, h6, h7, h8⟩ := h9
      refine ⟨h1, h2, fun i hi => ?_⟩
      match i, hi with
      | 0, _ => exact h3
      | 1, _ => exact h4
      | 2, _ => exact h5
      | 3, _ => exact h6
      | 4, _ => exact h7
      | 5, _ => exact h8
    · exact ⟨h9.1, h9.2.1, h9.2.2 0 (by decide), h9.2.2 1 (by decide), h9.2.2 2 (by decide), h9.2.2 3 (by decide), h9.2.2 4 (by decide), h9.2.2 5 (by decide)⟩
  rcases hv with hv | hv
  · exact Or.inr ⟨hv, fun h9 => f0 hv (k2.mpr h9)⟩
  · exact Or.inl ⟨hv, k2.mp (f1 hv)⟩
theorem pO.w_23 (h : pO M o b n na s) (w : s.1 = 0) (f1 : v.toInt = 1 → rv M o 17 = 3 ∧ rv M o 15 - rv M o 16 = 3 ∧ ra M o 13 ((rv M o 16).toNat + 0) = 98 ∧ ra M o 13 ((rv M o 16).toNat + 1) = 97 ∧ ra M o 13 ((rv M o 16).toNat + 2) = 114) (f0 : v.toInt = 0 → ¬ (rv M o 17 = 3 ∧ rv M o 15 - rv M o 16 = 3 ∧ ra M o 13 ((rv M o 16).toNat + 0) = 98 ∧ ra M o 13 ((rv M o 16).toNat + 1) = 97 ∧ ra M o 13 ((rv M o 16).toNat + 2) = 114)) (hv : v.toInt = 0 ∨ v.toInt = 1) : (v.toInt = 1 ∧ p_wi b n s.2.2 = 23) ∨ (v.toInt = 0 ∧ p_wi b n s.2.2 ≠ 23) := by
  have key := h.wd (J := 23) (W := [98, 97, 114]) w rfl (by decide)
  have k2 : (rv M o 17 = 3 ∧ rv M o 15 - rv M o 16 = 3 ∧ ra M o 13 ((rv M o 16).toNat + 0) = 98 ∧ ra M o 13 ((rv M o 16).toNat + 1) = 97 ∧ ra M o 13 ((rv M o 16).toNat + 2) = 114) ↔ p_wi b n s.2.2 = 23 := by
    refine Iff.trans ⟨fun h9 => ?_, fun h9 => ?_⟩ key
    · obtain ⟨h1, h2, h3, h4, h5⟩ := h9
      refine ⟨h1, h2, fun i hi => ?_⟩
      match i, hi with
      | 0, _ => exact h3
      | 1, _ => exact h4
      | 2, _ => exact h5
    · exact ⟨h9.1, h9.2.1, h9.2.2 0 (by decide), h9.2.2 1 (by decide), h9.2.2 2 (by decide)⟩
  rcases hv with hv | hv
  · exact Or.inr ⟨hv, fun h9 => f0 hv (k2.mpr h9)⟩
  · exact Or.inl ⟨hv, k2.mp (f1 hv)⟩
theorem pO.w_24 (h : pO M o b n na s) (w : s.1 = 0) (f1 : v.toInt = 1 → rv M o 17 = 3 ∧ rv M o 15 - rv M o 16 = 4 ∧ ra M o 13 ((rv M o 16).toNat + 0) = 109 ∧ ra M o 13 ((rv M o 16).toNat + 1) = 97 ∧ ra M o 13 ((rv M o 16).toNat + 2) = 114 ∧ ra M o 13 ((rv M o 16).toNat + 3) = 107) (f0 : v.toInt = 0 → ¬ (rv M o 17 = 3 ∧ rv M o 15 - rv M o 16 = 4 ∧ ra M o 13 ((rv M o 16).toNat + 0) = 109 ∧ ra M o 13 ((rv M o 16).toNat + 1) = 97 ∧ ra M o 13 ((rv M o 16).toNat + 2) = 114 ∧ ra M o 13 ((rv M o 16).toNat + 3) = 107)) (hv : v.toInt = 0 ∨ v.toInt = 1) : (v.toInt = 1 ∧ p_wi b n s.2.2 = 24) ∨ (v.toInt = 0 ∧ p_wi b n s.2.2 ≠ 24) := by
  have key := h.wd (J := 24) (W := [109, 97, 114, 107]) w rfl (by decide)
  have k2 : (rv M o 17 = 3 ∧ rv M o 15 - rv M o 16 = 4 ∧ ra M o 13 ((rv M o 16).toNat + 0) = 109 ∧ ra M o 13 ((rv M o 16).toNat + 1) = 97 ∧ ra M o 13 ((rv M o 16).toNat + 2) = 114 ∧ ra M o 13 ((rv M o 16).toNat + 3) = 107) ↔ p_wi b n s.2.2 = 24 := by
    refine Iff.trans ⟨fun h9 => ?_, fun h9 => ?_⟩ key
    · obtain ⟨h1, h2, h3, h4, h5, h6⟩ := h9
      refine ⟨h1, h2, fun i hi => ?_⟩
      match i, hi with
      | 0, _ => exact h3
      | 1, _ => exact h4
      | 2, _ => exact h5
      | 3, _ => exact h6
    · exact ⟨h9.1, h9.2.1, h9.2.2 0 (by decide), h9.2.2 1 (by decide), h9.2.2 2 (by decide), h9.2.2 3 (by decide)⟩
  rcases hv with hv | hv
  · exact Or.inr ⟨hv, fun h9 => f0 hv (k2.mpr h9)⟩
  · exact Or.inl ⟨hv, k2.mp (f1 hv)⟩
theorem pO.w_25 (h : pO M o b n na s) (w : s.1 = 0) (f1 : v.toInt = 1 → rv M o 17 = 3 ∧ rv M o 15 - rv M o 16 = 5 ∧ ra M o 13 ((rv M o 16).toNat + 0) = 116 ∧ ra M o 13 ((rv M o 16).toNat + 1) = 114 ∧ ra M o 13 ((rv M o 16).toNat + 2) = 117 ∧ ra M o 13 ((rv M o 16).toNat + 3) = 115 ∧ ra M o 13 ((rv M o 16).toNat + 4) = 116) (f0 : v.toInt = 0 → ¬ (rv M o 17 = 3 ∧ rv M o 15 - rv M o 16 = 5 ∧ ra M o 13 ((rv M o 16).toNat + 0) = 116 ∧ ra M o 13 ((rv M o 16).toNat + 1) = 114 ∧ ra M o 13 ((rv M o 16).toNat + 2) = 117 ∧ ra M o 13 ((rv M o 16).toNat + 3) = 115 ∧ ra M o 13 ((rv M o 16).toNat + 4) = 116)) (hv : v.toInt = 0 ∨ v.toInt = 1) : (v.toInt = 1 ∧ p_wi b n s.2.2 = 25) ∨ (v.toInt = 0 ∧ p_wi b n s.2.2 ≠ 25) := by
  have key := h.wd (J := 25) (W := [116, 114, 117, 115, 116]) w rfl (by decide)
  have k2 : (rv M o 17 = 3 ∧ rv M o 15 - rv M o 16 = 5 ∧ ra M o 13 ((rv M o 16).toNat + 0) = 116 ∧ ra M o 13 ((rv M o 16).toNat + 1) = 114 ∧ ra M o 13 ((rv M o 16).toNat + 2) = 117 ∧ ra M o 13 ((rv M o 16).toNat + 3) = 115 ∧ ra M o 13 ((rv M o 16).toNat + 4) = 116) ↔ p_wi b n s.2.2 = 25 := by
    refine Iff.trans ⟨fun h9 => ?_, fun h9 => ?_⟩ key
    · obtain ⟨h1, h2, h3, h4, h5, h6, h7⟩ := h9
      refine ⟨h1, h2, fun i hi => ?_⟩
      match i, hi with
      | 0, _ => exact h3
      | 1, _ => exact h4
      | 2, _ => exact h5
      | 3, _ => exact h6
      | 4, _ => exact h7
    · exact ⟨h9.1, h9.2.1, h9.2.2 0 (by decide), h9.2.2 1 (by decide), h9.2.2 2 (by decide), h9.2.2 3 (by decide), h9.2.2 4 (by decide)⟩
  rcases hv with hv | hv
  · exact Or.inr ⟨hv, fun h9 => f0 hv (k2.mpr h9)⟩
  · exact Or.inl ⟨hv, k2.mp (f1 hv)⟩
theorem pO.w_26 (h : pO M o b n na s) (w : s.1 = 0) (f1 : v.toInt = 1 → rv M o 17 = 3 ∧ rv M o 15 - rv M o 16 = 3 ∧ ra M o 13 ((rv M o 16).toNat + 0) = 101 ∧ ra M o 13 ((rv M o 16).toNat + 1) = 110 ∧ ra M o 13 ((rv M o 16).toNat + 2) = 100) (f0 : v.toInt = 0 → ¬ (rv M o 17 = 3 ∧ rv M o 15 - rv M o 16 = 3 ∧ ra M o 13 ((rv M o 16).toNat + 0) = 101 ∧ ra M o 13 ((rv M o 16).toNat + 1) = 110 ∧ ra M o 13 ((rv M o 16).toNat + 2) = 100)) (hv : v.toInt = 0 ∨ v.toInt = 1) : (v.toInt = 1 ∧ p_wi b n s.2.2 = 26) ∨ (v.toInt = 0 ∧ p_wi b n s.2.2 ≠ 26) := by
  have key := h.wd (J := 26) (W := [101, 110, 100]) w rfl (by decide)
  have k2 : (rv M o 17 = 3 ∧ rv M o 15 - rv M o 16 = 3 ∧ ra M o 13 ((rv M o 16).toNat + 0) = 101 ∧ ra M o 13 ((rv M o 16).toNat + 1) = 110 ∧ ra M o 13 ((rv M o 16).toNat + 2) = 100) ↔ p_wi b n s.2.2 = 26 := by
    refine Iff.trans ⟨fun h9 => ?_, fun h9 => ?_⟩ key
    · obtain ⟨h1, h2, h3, h4, h5⟩ := h9
      refine ⟨h1, h2, fun i hi => ?_⟩
      match i, hi with
      | 0, _ => exact h3
      | 1, _ => exact h4
      | 2, _ => exact h5
    · exact ⟨h9.1, h9.2.1, h9.2.2 0 (by decide), h9.2.2 1 (by decide), h9.2.2 2 (by decide)⟩
  rcases hv with hv | hv
  · exact Or.inr ⟨hv, fun h9 => f0 hv (k2.mpr h9)⟩
  · exact Or.inl ⟨hv, k2.mp (f1 hv)⟩
theorem pO.w_27 (h : pO M o b n na s) (w : s.1 = 0) (f1 : v.toInt = 1 → rv M o 17 = 3 ∧ rv M o 15 - rv M o 16 = 4 ∧ ra M o 13 ((rv M o 16).toNat + 0) = 112 ∧ ra M o 13 ((rv M o 16).toNat + 1) = 97 ∧ ra M o 13 ((rv M o 16).toNat + 2) = 121 ∧ ra M o 13 ((rv M o 16).toNat + 3) = 115) (f0 : v.toInt = 0 → ¬ (rv M o 17 = 3 ∧ rv M o 15 - rv M o 16 = 4 ∧ ra M o 13 ((rv M o 16).toNat + 0) = 112 ∧ ra M o 13 ((rv M o 16).toNat + 1) = 97 ∧ ra M o 13 ((rv M o 16).toNat + 2) = 121 ∧ ra M o 13 ((rv M o 16).toNat + 3) = 115)) (hv : v.toInt = 0 ∨ v.toInt = 1) : (v.toInt = 1 ∧ p_wi b n s.2.2 = 27) ∨ (v.toInt = 0 ∧ p_wi b n s.2.2 ≠ 27) := by
  have key := h.wd (J := 27) (W := [112, 97, 121, 115]) w rfl (by decide)
  have k2 : (rv M o 17 = 3 ∧ rv M o 15 - rv M o 16 = 4 ∧ ra M o 13 ((rv M o 16).toNat + 0) = 112 ∧ ra M o 13 ((rv M o 16).toNat + 1) = 97 ∧ ra M o 13 ((rv M o 16).toNat + 2) = 121 ∧ ra M o 13 ((rv M o 16).toNat + 3) = 115) ↔ p_wi b n s.2.2 = 27 := by
    refine Iff.trans ⟨fun h9 => ?_, fun h9 => ?_⟩ key
    · obtain ⟨h1, h2, h3, h4, h5, h6⟩ := h9
      refine ⟨h1, h2, fun i hi => ?_⟩
      match i, hi with
      | 0, _ => exact h3
      | 1, _ => exact h4
      | 2, _ => exact h5
      | 3, _ => exact h6
    · exact ⟨h9.1, h9.2.1, h9.2.2 0 (by decide), h9.2.2 1 (by decide), h9.2.2 2 (by decide), h9.2.2 3 (by decide)⟩
  rcases hv with hv | hv
  · exact Or.inr ⟨hv, fun h9 => f0 hv (k2.mpr h9)⟩
  · exact Or.inl ⟨hv, k2.mp (f1 hv)⟩
theorem pO.w_28 (h : pO M o b n na s) (w : s.1 = 0) (f1 : v.toInt = 1 → rv M o 17 = 3 ∧ rv M o 15 - rv M o 16 = 2 ∧ ra M o 13 ((rv M o 16).toNat + 0) = 105 ∧ ra M o 13 ((rv M o 16).toNat + 1) = 102) (f0 : v.toInt = 0 → ¬ (rv M o 17 = 3 ∧ rv M o 15 - rv M o 16 = 2 ∧ ra M o 13 ((rv M o 16).toNat + 0) = 105 ∧ ra M o 13 ((rv M o 16).toNat + 1) = 102)) (hv : v.toInt = 0 ∨ v.toInt = 1) : (v.toInt = 1 ∧ p_wi b n s.2.2 = 28) ∨ (v.toInt = 0 ∧ p_wi b n s.2.2 ≠ 28) := by
  have key := h.wd (J := 28) (W := [105, 102]) w rfl (by decide)
  have k2 : (rv M o 17 = 3 ∧ rv M o 15 - rv M o 16 = 2 ∧ ra M o 13 ((rv M o 16).toNat + 0) = 105 ∧ ra M o 13 ((rv M o 16).toNat + 1) = 102) ↔ p_wi b n s.2.2 = 28 := by
    refine Iff.trans ⟨fun h9 => ?_, fun h9 => ?_⟩ key
    · obtain ⟨h1, h2, h3, h4⟩ := h9
      refine ⟨h1, h2, fun i hi => ?_⟩
      match i, hi with
      | 0, _ => exact h3
      | 1, _ => exact h4
    · exact ⟨h9.1, h9.2.1, h9.2.2 0 (by decide), h9.2.2 1 (by decide)⟩
  rcases hv with hv | hv
  · exact Or.inr ⟨hv, fun h9 => f0 hv (k2.mpr h9)⟩
  · exact Or.inl ⟨hv, k2.mp (f1 hv)⟩
theorem pO.w_29 (h : pO M o b n na s) (w : s.1 = 0) (f1 : v.toInt = 1 → rv M o 17 = 3 ∧ rv M o 15 - rv M o 16 = 4 ∧ ra M o 13 ((rv M o 16).toNat + 0) = 112 ∧ ra M o 13 ((rv M o 16).toNat + 1) = 97 ∧ ra M o 13 ((rv M o 16).toNat + 2) = 114 ∧ ra M o 13 ((rv M o 16).toNat + 3) = 116) (f0 : v.toInt = 0 → ¬ (rv M o 17 = 3 ∧ rv M o 15 - rv M o 16 = 4 ∧ ra M o 13 ((rv M o 16).toNat + 0) = 112 ∧ ra M o 13 ((rv M o 16).toNat + 1) = 97 ∧ ra M o 13 ((rv M o 16).toNat + 2) = 114 ∧ ra M o 13 ((rv M o 16).toNat + 3) = 116)) (hv : v.toInt = 0 ∨ v.toInt = 1) : (v.toInt = 1 ∧ p_wi b n s.2.2 = 29) ∨ (v.toInt = 0 ∧ p_wi b n s.2.2 ≠ 29) := by
  have key := h.wd (J := 29) (W := [112, 97, 114, 116]) w rfl (by decide)
  have k2 : (rv M o 17 = 3 ∧ rv M o 15 - rv M o 16 = 4 ∧ ra M o 13 ((rv M o 16).toNat + 0) = 112 ∧ ra M o 13 ((rv M o 16).toNat + 1) = 97 ∧ ra M o 13 ((rv M o 16).toNat + 2) = 114 ∧ ra M o 13 ((rv M o 16).toNat + 3) = 116) ↔ p_wi b n s.2.2 = 29 := by
    refine Iff.trans ⟨fun h9 => ?_, fun h9 => ?_⟩ key
    · obtain ⟨h1, h2, h3, h4, h5, h6⟩ := h9
      refine ⟨h1, h2, fun i hi => ?_⟩
      match i, hi with
      | 0, _ => exact h3
      | 1, _ => exact h4
      | 2, _ => exact h5
      | 3, _ => exact h6
    · exact ⟨h9.1, h9.2.1, h9.2.2 0 (by decide), h9.2.2 1 (by decide), h9.2.2 2 (by decide), h9.2.2 3 (by decide)⟩
  rcases hv with hv | hv
  · exact Or.inr ⟨hv, fun h9 => f0 hv (k2.mpr h9)⟩
  · exact Or.inl ⟨hv, k2.mp (f1 hv)⟩
theorem pO.w_30 (h : pO M o b n na s) (w : s.1 = 0) (f1 : v.toInt = 1 → rv M o 17 = 3 ∧ rv M o 15 - rv M o 16 = 3 ∧ ra M o 13 ((rv M o 16).toNat + 0) = 110 ∧ ra M o 13 ((rv M o 16).toNat + 1) = 111 ∧ ra M o 13 ((rv M o 16).toNat + 2) = 116) (f0 : v.toInt = 0 → ¬ (rv M o 17 = 3 ∧ rv M o 15 - rv M o 16 = 3 ∧ ra M o 13 ((rv M o 16).toNat + 0) = 110 ∧ ra M o 13 ((rv M o 16).toNat + 1) = 111 ∧ ra M o 13 ((rv M o 16).toNat + 2) = 116)) (hv : v.toInt = 0 ∨ v.toInt = 1) : (v.toInt = 1 ∧ p_wi b n s.2.2 = 30) ∨ (v.toInt = 0 ∧ p_wi b n s.2.2 ≠ 30) := by
  have key := h.wd (J := 30) (W := [110, 111, 116]) w rfl (by decide)
  have k2 : (rv M o 17 = 3 ∧ rv M o 15 - rv M o 16 = 3 ∧ ra M o 13 ((rv M o 16).toNat + 0) = 110 ∧ ra M o 13 ((rv M o 16).toNat + 1) = 111 ∧ ra M o 13 ((rv M o 16).toNat + 2) = 116) ↔ p_wi b n s.2.2 = 30 := by
    refine Iff.trans ⟨fun h9 => ?_, fun h9 => ?_⟩ key
    · obtain ⟨h1, h2, h3, h4, h5⟩ := h9
      refine ⟨h1, h2, fun i hi => ?_⟩
      match i, hi with
      | 0, _ => exact h3
      | 1, _ => exact h4
      | 2, _ => exact h5
    · exact ⟨h9.1, h9.2.1, h9.2.2 0 (by decide), h9.2.2 1 (by decide), h9.2.2 2 (by decide)⟩
  rcases hv with hv | hv
  · exact Or.inr ⟨hv, fun h9 => f0 hv (k2.mpr h9)⟩
  · exact Or.inl ⟨hv, k2.mp (f1 hv)⟩
theorem pO.w_31 (h : pO M o b n na s) (w : s.1 = 0) (f1 : v.toInt = 1 → rv M o 17 = 3 ∧ rv M o 15 - rv M o 16 = 3 ∧ ra M o 13 ((rv M o 16).toNat + 0) = 97 ∧ ra M o 13 ((rv M o 16).toNat + 1) = 110 ∧ ra M o 13 ((rv M o 16).toNat + 2) = 100) (f0 : v.toInt = 0 → ¬ (rv M o 17 = 3 ∧ rv M o 15 - rv M o 16 = 3 ∧ ra M o 13 ((rv M o 16).toNat + 0) = 97 ∧ ra M o 13 ((rv M o 16).toNat + 1) = 110 ∧ ra M o 13 ((rv M o 16).toNat + 2) = 100)) (hv : v.toInt = 0 ∨ v.toInt = 1) : (v.toInt = 1 ∧ p_wi b n s.2.2 = 31) ∨ (v.toInt = 0 ∧ p_wi b n s.2.2 ≠ 31) := by
  have key := h.wd (J := 31) (W := [97, 110, 100]) w rfl (by decide)
  have k2 : (rv M o 17 = 3 ∧ rv M o 15 - rv M o 16 = 3 ∧ ra M o 13 ((rv M o 16).toNat + 0) = 97 ∧ ra M o 13 ((rv M o 16).toNat + 1) = 110 ∧ ra M o 13 ((rv M o 16).toNat + 2) = 100) ↔ p_wi b n s.2.2 = 31 := by
    refine Iff.trans ⟨fun h9 => ?_, fun h9 => ?_⟩ key
    · obtain ⟨h1, h2, h3, h4, h5⟩ := h9
      refine ⟨h1, h2, fun i hi => ?_⟩
      match i, hi with
      | 0, _ => exact h3
      | 1, _ => exact h4
      | 2, _ => exact h5
    · exact ⟨h9.1, h9.2.1, h9.2.2 0 (by decide), h9.2.2 1 (by decide), h9.2.2 2 (by decide)⟩
  rcases hv with hv | hv
  · exact Or.inr ⟨hv, fun h9 => f0 hv (k2.mpr h9)⟩
  · exact Or.inl ⟨hv, k2.mp (f1 hv)⟩
theorem pO.w_32 (h : pO M o b n na s) (w : s.1 = 0) (f1 : v.toInt = 1 → rv M o 17 = 3 ∧ rv M o 15 - rv M o 16 = 2 ∧ ra M o 13 ((rv M o 16).toNat + 0) = 111 ∧ ra M o 13 ((rv M o 16).toNat + 1) = 114) (f0 : v.toInt = 0 → ¬ (rv M o 17 = 3 ∧ rv M o 15 - rv M o 16 = 2 ∧ ra M o 13 ((rv M o 16).toNat + 0) = 111 ∧ ra M o 13 ((rv M o 16).toNat + 1) = 114)) (hv : v.toInt = 0 ∨ v.toInt = 1) : (v.toInt = 1 ∧ p_wi b n s.2.2 = 32) ∨ (v.toInt = 0 ∧ p_wi b n s.2.2 ≠ 32) := by
  have key := h.wd (J := 32) (W := [111, 114]) w rfl (by decide)
  have k2 : (rv M o 17 = 3 ∧ rv M o 15 - rv M o 16 = 2 ∧ ra M o 13 ((rv M o 16).toNat + 0) = 111 ∧ ra M o 13 ((rv M o 16).toNat + 1) = 114) ↔ p_wi b n s.2.2 = 32 := by
    refine Iff.trans ⟨fun h9 => ?_, fun h9 => ?_⟩ key
    · obtain ⟨h1, h2, h3, h4⟩ := h9
      refine ⟨h1, h2, fun i hi => ?_⟩
      match i, hi with
      | 0, _ => exact h3
      | 1, _ => exact h4
    · exact ⟨h9.1, h9.2.1, h9.2.2 0 (by decide), h9.2.2 1 (by decide)⟩
  rcases hv with hv | hv
  · exact Or.inr ⟨hv, fun h9 => f0 hv (k2.mpr h9)⟩
  · exact Or.inl ⟨hv, k2.mp (f1 hv)⟩
end PW
abbrev kY_TrustDeskModel_next : mj_Y := (⟨"TrustDeskModel", "next", "()V"⟩, prog_14_method_16_code, 2, (Option.none : Option Jvm.ClassFile.FieldType))
theorem d_TrustDeskModel_next_0 : decode kY_TrustDeskModel_next.2.1 0 = .ok (.aload_n 0, 1) := by decide +kernel
theorem d_TrustDeskModel_next_1 : decode kY_TrustDeskModel_next.2.1 1 = .ok (.getfield 192, 3) := by decide +kernel
theorem f_TrustDeskModel_192_13 : mj_fl "TrustDeskModel" 192 13 15 := ⟨kR_TrustDeskModel, kF_TrustDeskModel, 72, "TrustDeskModel", rfl, kg_13, by decide, (mj_in1 (List.mem_of_getElem? (i := 1401) (by decide +kernel)) rfl), Or.inl rfl⟩
theorem d_TrustDeskModel_next_4 : decode kY_TrustDeskModel_next.2.1 4 = .ok (.aload_n 0, 1) := by decide +kernel
theorem d_TrustDeskModel_next_5 : decode kY_TrustDeskModel_next.2.1 5 = .ok (.getfield 189, 3) := by decide +kernel
theorem f_TrustDeskModel_189_13 : mj_fl "TrustDeskModel" 189 13 14 := ⟨kR_TrustDeskModel, kF_TrustDeskModel, 72, "TrustDeskModel", rfl, kg_13, by decide, (mj_in1 (List.mem_of_getElem? (i := 1400) (by decide +kernel)) rfl), Or.inl rfl⟩
theorem d_TrustDeskModel_next_8 : decode kY_TrustDeskModel_next.2.1 8 = .ok (.if_icmp .ge 44, 3) := by decide +kernel
theorem d_TrustDeskModel_next_52 : decode kY_TrustDeskModel_next.2.1 52 = .ok (.aload_n 0, 1) := by decide +kernel
theorem d_TrustDeskModel_next_53 : decode kY_TrustDeskModel_next.2.1 53 = .ok (.aload_n 0, 1) := by decide +kernel
theorem d_TrustDeskModel_next_54 : decode kY_TrustDeskModel_next.2.1 54 = .ok (.getfield 192, 3) := by decide +kernel
theorem d_TrustDeskModel_next_57 : decode kY_TrustDeskModel_next.2.1 57 = .ok (.putfield 195, 3) := by decide +kernel
theorem p_TrustDeskModel_195_13 : mj_fp "TrustDeskModel" 195 13 16 (kt_TrustDeskModel 16) false := ⟨kR_TrustDeskModel, kF_TrustDeskModel, 72, "TrustDeskModel", kt_TrustDeskModel, rfl, kg_13, by decide, (mj_in1 (List.mem_of_getElem? (i := 1402) (by decide +kernel)) rfl), Or.inl rfl, kto_TrustDeskModel, kn_TrustDeskModel, rfl, rfl, fun h => by cases h⟩
theorem d_TrustDeskModel_next_60 : decode kY_TrustDeskModel_next.2.1 60 = .ok (.aload_n 0, 1) := by decide +kernel
theorem d_TrustDeskModel_next_61 : decode kY_TrustDeskModel_next.2.1 61 = .ok (.getfield 192, 3) := by decide +kernel
theorem d_TrustDeskModel_next_64 : decode kY_TrustDeskModel_next.2.1 64 = .ok (.aload_n 0, 1) := by decide +kernel
theorem d_TrustDeskModel_next_65 : decode kY_TrustDeskModel_next.2.1 65 = .ok (.getfield 189, 3) := by decide +kernel
theorem d_TrustDeskModel_next_68 : decode kY_TrustDeskModel_next.2.1 68 = .ok (.if_icmp .lt 9, 3) := by decide +kernel
theorem d_TrustDeskModel_next_77 : decode kY_TrustDeskModel_next.2.1 77 = .ok (.aload_n 0, 1) := by decide +kernel
theorem d_TrustDeskModel_next_78 : decode kY_TrustDeskModel_next.2.1 78 = .ok (.getfield 44, 3) := by decide +kernel
theorem f_TrustDeskModel_44_13 : mj_fl "TrustDeskModel" 44 13 13 := ⟨kR_TrustDeskModel, kF_TrustDeskModel, 72, "TrustDeskModel", rfl, kg_13, by decide, (mj_in1 (List.mem_of_getElem? (i := 1399) (by decide +kernel)) rfl), Or.inl rfl⟩
theorem d_TrustDeskModel_next_81 : decode kY_TrustDeskModel_next.2.1 81 = .ok (.aload_n 0, 1) := by decide +kernel
theorem d_TrustDeskModel_next_82 : decode kY_TrustDeskModel_next.2.1 82 = .ok (.getfield 192, 3) := by decide +kernel
theorem d_TrustDeskModel_next_85 : decode kY_TrustDeskModel_next.2.1 85 = .ok (.baload, 1) := by decide +kernel
theorem d_TrustDeskModel_next_86 : decode kY_TrustDeskModel_next.2.1 86 = .ok (.istore_n 1, 1) := by decide +kernel
theorem d_TrustDeskModel_next_87 : decode kY_TrustDeskModel_next.2.1 87 = .ok (.aload_n 0, 1) := by decide +kernel
theorem d_TrustDeskModel_next_88 : decode kY_TrustDeskModel_next.2.1 88 = .ok (.dup, 1) := by decide +kernel
theorem d_TrustDeskModel_next_89 : decode kY_TrustDeskModel_next.2.1 89 = .ok (.getfield 192, 3) := by decide +kernel
theorem d_TrustDeskModel_next_92 : decode kY_TrustDeskModel_next.2.1 92 = .ok (.iconst 1, 1) := by decide +kernel
theorem d_TrustDeskModel_next_93 : decode kY_TrustDeskModel_next.2.1 93 = .ok (.iadd, 1) := by decide +kernel
theorem d_TrustDeskModel_next_94 : decode kY_TrustDeskModel_next.2.1 94 = .ok (.putfield 192, 3) := by decide +kernel
theorem p_TrustDeskModel_192_13 : mj_fp "TrustDeskModel" 192 13 15 (kt_TrustDeskModel 15) false := ⟨kR_TrustDeskModel, kF_TrustDeskModel, 72, "TrustDeskModel", kt_TrustDeskModel, rfl, kg_13, by decide, (mj_in1 (List.mem_of_getElem? (i := 1401) (by decide +kernel)) rfl), Or.inl rfl, kto_TrustDeskModel, kn_TrustDeskModel, rfl, rfl, fun h => by cases h⟩
theorem d_TrustDeskModel_next_97 : decode kY_TrustDeskModel_next.2.1 97 = .ok (.aload_n 0, 1) := by decide +kernel
theorem d_TrustDeskModel_next_98 : decode kY_TrustDeskModel_next.2.1 98 = .ok (.iload_n 1, 1) := by decide +kernel
theorem d_TrustDeskModel_next_99 : decode kY_TrustDeskModel_next.2.1 99 = .ok (.putfield 201, 3) := by decide +kernel
theorem p_TrustDeskModel_201_13 : mj_fp "TrustDeskModel" 201 13 18 (kt_TrustDeskModel 18) false := ⟨kR_TrustDeskModel, kF_TrustDeskModel, 72, "TrustDeskModel", kt_TrustDeskModel, rfl, kg_13, by decide, (mj_in1 (List.mem_of_getElem? (i := 1404) (by decide +kernel)) rfl), Or.inl rfl, kto_TrustDeskModel, kn_TrustDeskModel, rfl, rfl, fun h => by cases h⟩
theorem d_TrustDeskModel_next_102 : decode kY_TrustDeskModel_next.2.1 102 = .ok (.iload_n 1, 1) := by decide +kernel
theorem d_TrustDeskModel_next_103 : decode kY_TrustDeskModel_next.2.1 103 = .ok (.invokestatic 204, 3) := by decide +kernel
abbrev kY_TrustDeskModel_isSmall : mj_Y := (⟨"TrustDeskModel", "isSmall", "(I)Z"⟩, prog_14_method_14_code, 1, (Option.some Jvm.ClassFile.FieldType.boolean))
theorem lS_TrustDeskModel_204 : mj_lS "TrustDeskModel" 204 kY_TrustDeskModel_isSmall 1 := ⟨⟨(mj_in1 (List.mem_of_getElem? (i := 1652) (by decide +kernel)) rfl), (mj_in1 (List.mem_of_getElem? (i := 10) (by decide +kernel)) rfl), (mj_in1 (List.mem_of_getElem? (i := 1654) (by decide +kernel)) rfl), by decide, rfl, by decide⟩, (mj_in1 (List.mem_of_getElem? (i := 1653) (by decide +kernel)) rfl)⟩
theorem d_TrustDeskModel_isSmall_0 : decode kY_TrustDeskModel_isSmall.2.1 0 = .ok (.iload_n 0, 1) := by decide +kernel
theorem d_TrustDeskModel_isSmall_1 : decode kY_TrustDeskModel_isSmall.2.1 1 = .ok (.bipush 97, 2) := by decide +kernel
theorem d_TrustDeskModel_isSmall_3 : decode kY_TrustDeskModel_isSmall.2.1 3 = .ok (.if_icmp .lt 13, 3) := by decide +kernel
theorem d_TrustDeskModel_isSmall_16 : decode kY_TrustDeskModel_isSmall.2.1 16 = .ok (.iconst 0, 1) := by decide +kernel
theorem d_TrustDeskModel_isSmall_17 : decode kY_TrustDeskModel_isSmall.2.1 17 = .ok (.ireturn, 1) := by decide +kernel
theorem d_TrustDeskModel_next_106 : decode kY_TrustDeskModel_next.2.1 106 = .ok (.ifCond .eq 38, 3) := by decide +kernel
theorem d_TrustDeskModel_next_144 : decode kY_TrustDeskModel_next.2.1 144 = .ok (.iload_n 1, 1) := by decide +kernel
theorem d_TrustDeskModel_next_145 : decode kY_TrustDeskModel_next.2.1 145 = .ok (.invokestatic 211, 3) := by decide +kernel
abbrev kY_TrustDeskModel_isDigit : mj_Y := (⟨"TrustDeskModel", "isDigit", "(I)Z"⟩, prog_14_method_15_code, 1, (Option.some Jvm.ClassFile.FieldType.boolean))
theorem lS_TrustDeskModel_211 : mj_lS "TrustDeskModel" 211 kY_TrustDeskModel_isDigit 1 := ⟨⟨(mj_in1 (List.mem_of_getElem? (i := 1659) (by decide +kernel)) rfl), (mj_in1 (List.mem_of_getElem? (i := 10) (by decide +kernel)) rfl), (mj_in1 (List.mem_of_getElem? (i := 1661) (by decide +kernel)) rfl), by decide, rfl, by decide⟩, (mj_in1 (List.mem_of_getElem? (i := 1660) (by decide +kernel)) rfl)⟩
theorem d_TrustDeskModel_isDigit_0 : decode kY_TrustDeskModel_isDigit.2.1 0 = .ok (.iload_n 0, 1) := by decide +kernel
theorem d_TrustDeskModel_isDigit_1 : decode kY_TrustDeskModel_isDigit.2.1 1 = .ok (.bipush 48, 2) := by decide +kernel
theorem d_TrustDeskModel_isDigit_3 : decode kY_TrustDeskModel_isDigit.2.1 3 = .ok (.if_icmp .lt 13, 3) := by decide +kernel
theorem d_TrustDeskModel_isDigit_16 : decode kY_TrustDeskModel_isDigit.2.1 16 = .ok (.iconst 0, 1) := by decide +kernel
theorem d_TrustDeskModel_isDigit_17 : decode kY_TrustDeskModel_isDigit.2.1 17 = .ok (.ireturn, 1) := by decide +kernel
theorem d_TrustDeskModel_next_148 : decode kY_TrustDeskModel_next.2.1 148 = .ok (.ifCond .eq 99, 3) := by decide +kernel
theorem d_TrustDeskModel_next_247 : decode kY_TrustDeskModel_next.2.1 247 = .ok (.aload_n 0, 1) := by decide +kernel
theorem d_TrustDeskModel_next_248 : decode kY_TrustDeskModel_next.2.1 248 = .ok (.iconst 4, 1) := by decide +kernel
theorem d_TrustDeskModel_next_249 : decode kY_TrustDeskModel_next.2.1 249 = .ok (.putfield 198, 3) := by decide +kernel
theorem p_TrustDeskModel_198_13 : mj_fp "TrustDeskModel" 198 13 17 (kt_TrustDeskModel 17) false := ⟨kR_TrustDeskModel, kF_TrustDeskModel, 72, "TrustDeskModel", kt_TrustDeskModel, rfl, kg_13, by decide, (mj_in1 (List.mem_of_getElem? (i := 1403) (by decide +kernel)) rfl), Or.inl rfl, kto_TrustDeskModel, kn_TrustDeskModel, rfl, rfl, fun h => by cases h⟩
theorem d_TrustDeskModel_next_252 : decode kY_TrustDeskModel_next.2.1 252 = .ok (.return_, 1) := by decide +kernel
theorem d_TrustDeskModel_isDigit_6 : decode kY_TrustDeskModel_isDigit.2.1 6 = .ok (.iload_n 0, 1) := by decide +kernel
theorem d_TrustDeskModel_isDigit_7 : decode kY_TrustDeskModel_isDigit.2.1 7 = .ok (.bipush 57, 2) := by decide +kernel
theorem d_TrustDeskModel_isDigit_9 : decode kY_TrustDeskModel_isDigit.2.1 9 = .ok (.if_icmp .gt 7, 3) := by decide +kernel
theorem d_TrustDeskModel_isDigit_12 : decode kY_TrustDeskModel_isDigit.2.1 12 = .ok (.iconst 1, 1) := by decide +kernel
theorem d_TrustDeskModel_isDigit_13 : decode kY_TrustDeskModel_isDigit.2.1 13 = .ok (.goto 4, 3) := by decide +kernel
theorem d_TrustDeskModel_next_151 : decode kY_TrustDeskModel_next.2.1 151 = .ok (.aload_n 0, 1) := by decide +kernel
theorem d_TrustDeskModel_next_152 : decode kY_TrustDeskModel_next.2.1 152 = .ok (.iload_n 1, 1) := by decide +kernel
theorem d_TrustDeskModel_next_153 : decode kY_TrustDeskModel_next.2.1 153 = .ok (.bipush 48, 2) := by decide +kernel
theorem d_TrustDeskModel_next_155 : decode kY_TrustDeskModel_next.2.1 155 = .ok (.isub, 1) := by decide +kernel
theorem d_TrustDeskModel_next_156 : decode kY_TrustDeskModel_next.2.1 156 = .ok (.putfield 201, 3) := by decide +kernel
theorem d_TrustDeskModel_next_159 : decode kY_TrustDeskModel_next.2.1 159 = .ok (.aload_n 0, 1) := by decide +kernel
theorem d_TrustDeskModel_next_160 : decode kY_TrustDeskModel_next.2.1 160 = .ok (.aload_n 0, 1) := by decide +kernel
theorem d_TrustDeskModel_next_161 : decode kY_TrustDeskModel_next.2.1 161 = .ok (.getfield 192, 3) := by decide +kernel
theorem d_TrustDeskModel_next_164 : decode kY_TrustDeskModel_next.2.1 164 = .ok (.invokevirtual 207, 3) := by decide +kernel
abbrev kY_TrustDeskModel_see : mj_Y := (⟨"TrustDeskModel", "see", "(I)I"⟩, prog_14_method_13_code, 2, (Option.some Jvm.ClassFile.FieldType.int))
theorem lV_TrustDeskModel_207 : mj_lV "TrustDeskModel" 207 kY_TrustDeskModel_see 1 := ⟨⟨(mj_in1 (List.mem_of_getElem? (i := 1655) (by decide +kernel)) rfl), (mj_in1 (List.mem_of_getElem? (i := 10) (by decide +kernel)) rfl), (mj_in1 (List.mem_of_getElem? (i := 1658) (by decide +kernel)) rfl), by decide, rfl, by decide⟩, (mj_in1 (List.mem_of_getElem? (i := 1657) (by decide +kernel)) rfl), (mj_in (List.mem_append_left _ (List.mem_of_getElem? (i := 82) (by decide +kernel))) rfl)⟩
theorem d_TrustDeskModel_see_0 : decode kY_TrustDeskModel_see.2.1 0 = .ok (.iload_n 1, 1) := by decide +kernel
theorem d_TrustDeskModel_see_1 : decode kY_TrustDeskModel_see.2.1 1 = .ok (.aload_n 0, 1) := by decide +kernel
theorem d_TrustDeskModel_see_2 : decode kY_TrustDeskModel_see.2.1 2 = .ok (.getfield 189, 3) := by decide +kernel
theorem d_TrustDeskModel_see_5 : decode kY_TrustDeskModel_see.2.1 5 = .ok (.if_icmp .ge 12, 3) := by decide +kernel
theorem d_TrustDeskModel_see_17 : decode kY_TrustDeskModel_see.2.1 17 = .ok (.iconst 0, 1) := by decide +kernel
theorem d_TrustDeskModel_see_18 : decode kY_TrustDeskModel_see.2.1 18 = .ok (.ireturn, 1) := by decide +kernel
theorem d_TrustDeskModel_next_167 : decode kY_TrustDeskModel_next.2.1 167 = .ok (.invokestatic 211, 3) := by decide +kernel
theorem d_TrustDeskModel_next_170 : decode kY_TrustDeskModel_next.2.1 170 = .ok (.ifCond .eq 52, 3) := by decide +kernel
theorem d_TrustDeskModel_next_222 : decode kY_TrustDeskModel_next.2.1 222 = .ok (.aload_n 0, 1) := by decide +kernel
theorem d_TrustDeskModel_next_223 : decode kY_TrustDeskModel_next.2.1 223 = .ok (.aload_n 0, 1) := by decide +kernel
theorem d_TrustDeskModel_next_224 : decode kY_TrustDeskModel_next.2.1 224 = .ok (.getfield 192, 3) := by decide +kernel
theorem d_TrustDeskModel_next_227 : decode kY_TrustDeskModel_next.2.1 227 = .ok (.aload_n 0, 1) := by decide +kernel
theorem d_TrustDeskModel_next_228 : decode kY_TrustDeskModel_next.2.1 228 = .ok (.getfield 195, 3) := by decide +kernel
theorem f_TrustDeskModel_195_13 : mj_fl "TrustDeskModel" 195 13 16 := ⟨kR_TrustDeskModel, kF_TrustDeskModel, 72, "TrustDeskModel", rfl, kg_13, by decide, (mj_in1 (List.mem_of_getElem? (i := 1402) (by decide +kernel)) rfl), Or.inl rfl⟩
theorem d_TrustDeskModel_next_231 : decode kY_TrustDeskModel_next.2.1 231 = .ok (.isub, 1) := by decide +kernel
theorem d_TrustDeskModel_next_232 : decode kY_TrustDeskModel_next.2.1 232 = .ok (.iconst 4, 1) := by decide +kernel
theorem d_TrustDeskModel_next_233 : decode kY_TrustDeskModel_next.2.1 233 = .ok (.if_icmp .le 7, 3) := by decide +kernel
theorem d_TrustDeskModel_next_240 : decode kY_TrustDeskModel_next.2.1 240 = .ok (.iconst 2, 1) := by decide +kernel
theorem d_TrustDeskModel_next_241 : decode kY_TrustDeskModel_next.2.1 241 = .ok (.putfield 198, 3) := by decide +kernel
theorem d_TrustDeskModel_next_244 : decode kY_TrustDeskModel_next.2.1 244 = .ok (.goto 8, 3) := by decide +kernel
theorem d_TrustDeskModel_next_236 : decode kY_TrustDeskModel_next.2.1 236 = .ok (.iconst 1, 1) := by decide +kernel
theorem d_TrustDeskModel_next_237 : decode kY_TrustDeskModel_next.2.1 237 = .ok (.goto 4, 3) := by decide +kernel
theorem d_TrustDeskModel_see_8 : decode kY_TrustDeskModel_see.2.1 8 = .ok (.aload_n 0, 1) := by decide +kernel
theorem d_TrustDeskModel_see_9 : decode kY_TrustDeskModel_see.2.1 9 = .ok (.getfield 44, 3) := by decide +kernel
theorem d_TrustDeskModel_see_12 : decode kY_TrustDeskModel_see.2.1 12 = .ok (.iload_n 1, 1) := by decide +kernel
theorem d_TrustDeskModel_see_13 : decode kY_TrustDeskModel_see.2.1 13 = .ok (.baload, 1) := by decide +kernel
theorem d_TrustDeskModel_see_14 : decode kY_TrustDeskModel_see.2.1 14 = .ok (.goto 4, 3) := by decide +kernel
theorem d_TrustDeskModel_next_173 : decode kY_TrustDeskModel_next.2.1 173 = .ok (.aload_n 0, 1) := by decide +kernel
theorem d_TrustDeskModel_next_174 : decode kY_TrustDeskModel_next.2.1 174 = .ok (.getfield 192, 3) := by decide +kernel
theorem d_TrustDeskModel_next_177 : decode kY_TrustDeskModel_next.2.1 177 = .ok (.aload_n 0, 1) := by decide +kernel
theorem d_TrustDeskModel_next_178 : decode kY_TrustDeskModel_next.2.1 178 = .ok (.getfield 195, 3) := by decide +kernel
theorem d_TrustDeskModel_next_181 : decode kY_TrustDeskModel_next.2.1 181 = .ok (.isub, 1) := by decide +kernel
theorem d_TrustDeskModel_next_182 : decode kY_TrustDeskModel_next.2.1 182 = .ok (.iconst 4, 1) := by decide +kernel
theorem d_TrustDeskModel_next_183 : decode kY_TrustDeskModel_next.2.1 183 = .ok (.if_icmp .ge 26, 3) := by decide +kernel
theorem d_TrustDeskModel_next_209 : decode kY_TrustDeskModel_next.2.1 209 = .ok (.aload_n 0, 1) := by decide +kernel
theorem d_TrustDeskModel_next_210 : decode kY_TrustDeskModel_next.2.1 210 = .ok (.dup, 1) := by decide +kernel
theorem d_TrustDeskModel_next_211 : decode kY_TrustDeskModel_next.2.1 211 = .ok (.getfield 192, 3) := by decide +kernel
theorem d_TrustDeskModel_next_214 : decode kY_TrustDeskModel_next.2.1 214 = .ok (.iconst 1, 1) := by decide +kernel
theorem d_TrustDeskModel_next_215 : decode kY_TrustDeskModel_next.2.1 215 = .ok (.iadd, 1) := by decide +kernel
theorem d_TrustDeskModel_next_216 : decode kY_TrustDeskModel_next.2.1 216 = .ok (.putfield 192, 3) := by decide +kernel
theorem d_TrustDeskModel_next_219 : decode kY_TrustDeskModel_next.2.1 219 = .ok (.goto (-60), 3) := by decide +kernel
theorem d_TrustDeskModel_next_186 : decode kY_TrustDeskModel_next.2.1 186 = .ok (.aload_n 0, 1) := by decide +kernel
theorem d_TrustDeskModel_next_187 : decode kY_TrustDeskModel_next.2.1 187 = .ok (.bipush 10, 2) := by decide +kernel
theorem d_TrustDeskModel_next_189 : decode kY_TrustDeskModel_next.2.1 189 = .ok (.aload_n 0, 1) := by decide +kernel
theorem d_TrustDeskModel_next_190 : decode kY_TrustDeskModel_next.2.1 190 = .ok (.getfield 201, 3) := by decide +kernel
theorem f_TrustDeskModel_201_13 : mj_fl "TrustDeskModel" 201 13 18 := ⟨kR_TrustDeskModel, kF_TrustDeskModel, 72, "TrustDeskModel", rfl, kg_13, by decide, (mj_in1 (List.mem_of_getElem? (i := 1404) (by decide +kernel)) rfl), Or.inl rfl⟩
theorem d_TrustDeskModel_next_193 : decode kY_TrustDeskModel_next.2.1 193 = .ok (.imul, 1) := by decide +kernel
theorem d_TrustDeskModel_next_194 : decode kY_TrustDeskModel_next.2.1 194 = .ok (.aload_n 0, 1) := by decide +kernel
theorem d_TrustDeskModel_next_195 : decode kY_TrustDeskModel_next.2.1 195 = .ok (.aload_n 0, 1) := by decide +kernel
theorem d_TrustDeskModel_next_196 : decode kY_TrustDeskModel_next.2.1 196 = .ok (.getfield 192, 3) := by decide +kernel
theorem d_TrustDeskModel_next_199 : decode kY_TrustDeskModel_next.2.1 199 = .ok (.invokevirtual 207, 3) := by decide +kernel
theorem d_TrustDeskModel_next_202 : decode kY_TrustDeskModel_next.2.1 202 = .ok (.iadd, 1) := by decide +kernel
theorem d_TrustDeskModel_next_203 : decode kY_TrustDeskModel_next.2.1 203 = .ok (.bipush 48, 2) := by decide +kernel
theorem d_TrustDeskModel_next_205 : decode kY_TrustDeskModel_next.2.1 205 = .ok (.isub, 1) := by decide +kernel
theorem d_TrustDeskModel_next_206 : decode kY_TrustDeskModel_next.2.1 206 = .ok (.putfield 201, 3) := by decide +kernel
theorem d_TrustDeskModel_isSmall_6 : decode kY_TrustDeskModel_isSmall.2.1 6 = .ok (.iload_n 0, 1) := by decide +kernel
theorem d_TrustDeskModel_isSmall_7 : decode kY_TrustDeskModel_isSmall.2.1 7 = .ok (.bipush 122, 2) := by decide +kernel
theorem d_TrustDeskModel_isSmall_9 : decode kY_TrustDeskModel_isSmall.2.1 9 = .ok (.if_icmp .gt 7, 3) := by decide +kernel
theorem d_TrustDeskModel_isSmall_12 : decode kY_TrustDeskModel_isSmall.2.1 12 = .ok (.iconst 1, 1) := by decide +kernel
theorem d_TrustDeskModel_isSmall_13 : decode kY_TrustDeskModel_isSmall.2.1 13 = .ok (.goto 4, 3) := by decide +kernel
theorem d_TrustDeskModel_next_109 : decode kY_TrustDeskModel_next.2.1 109 = .ok (.aload_n 0, 1) := by decide +kernel
theorem d_TrustDeskModel_next_110 : decode kY_TrustDeskModel_next.2.1 110 = .ok (.aload_n 0, 1) := by decide +kernel
theorem d_TrustDeskModel_next_111 : decode kY_TrustDeskModel_next.2.1 111 = .ok (.getfield 192, 3) := by decide +kernel
theorem d_TrustDeskModel_next_114 : decode kY_TrustDeskModel_next.2.1 114 = .ok (.invokevirtual 207, 3) := by decide +kernel
theorem d_TrustDeskModel_next_117 : decode kY_TrustDeskModel_next.2.1 117 = .ok (.invokestatic 204, 3) := by decide +kernel
theorem d_TrustDeskModel_next_120 : decode kY_TrustDeskModel_next.2.1 120 = .ok (.ifCond .eq 16, 3) := by decide +kernel
theorem d_TrustDeskModel_next_136 : decode kY_TrustDeskModel_next.2.1 136 = .ok (.aload_n 0, 1) := by decide +kernel
theorem d_TrustDeskModel_next_137 : decode kY_TrustDeskModel_next.2.1 137 = .ok (.iconst 3, 1) := by decide +kernel
theorem d_TrustDeskModel_next_138 : decode kY_TrustDeskModel_next.2.1 138 = .ok (.putfield 198, 3) := by decide +kernel
theorem d_TrustDeskModel_next_141 : decode kY_TrustDeskModel_next.2.1 141 = .ok (.goto 111, 3) := by decide +kernel
theorem d_TrustDeskModel_next_123 : decode kY_TrustDeskModel_next.2.1 123 = .ok (.aload_n 0, 1) := by decide +kernel
theorem d_TrustDeskModel_next_124 : decode kY_TrustDeskModel_next.2.1 124 = .ok (.dup, 1) := by decide +kernel
theorem d_TrustDeskModel_next_125 : decode kY_TrustDeskModel_next.2.1 125 = .ok (.getfield 192, 3) := by decide +kernel
theorem d_TrustDeskModel_next_128 : decode kY_TrustDeskModel_next.2.1 128 = .ok (.iconst 1, 1) := by decide +kernel
theorem d_TrustDeskModel_next_129 : decode kY_TrustDeskModel_next.2.1 129 = .ok (.iadd, 1) := by decide +kernel
theorem d_TrustDeskModel_next_130 : decode kY_TrustDeskModel_next.2.1 130 = .ok (.putfield 192, 3) := by decide +kernel
theorem d_TrustDeskModel_next_133 : decode kY_TrustDeskModel_next.2.1 133 = .ok (.goto (-24), 3) := by decide +kernel
theorem d_TrustDeskModel_next_71 : decode kY_TrustDeskModel_next.2.1 71 = .ok (.aload_n 0, 1) := by decide +kernel
theorem d_TrustDeskModel_next_72 : decode kY_TrustDeskModel_next.2.1 72 = .ok (.iconst 0, 1) := by decide +kernel
theorem d_TrustDeskModel_next_73 : decode kY_TrustDeskModel_next.2.1 73 = .ok (.putfield 198, 3) := by decide +kernel
theorem d_TrustDeskModel_next_76 : decode kY_TrustDeskModel_next.2.1 76 = .ok (.return_, 1) := by decide +kernel
theorem d_TrustDeskModel_next_11 : decode kY_TrustDeskModel_next.2.1 11 = .ok (.aload_n 0, 1) := by decide +kernel
theorem d_TrustDeskModel_next_12 : decode kY_TrustDeskModel_next.2.1 12 = .ok (.getfield 44, 3) := by decide +kernel
theorem d_TrustDeskModel_next_15 : decode kY_TrustDeskModel_next.2.1 15 = .ok (.aload_n 0, 1) := by decide +kernel
theorem d_TrustDeskModel_next_16 : decode kY_TrustDeskModel_next.2.1 16 = .ok (.getfield 192, 3) := by decide +kernel
theorem d_TrustDeskModel_next_19 : decode kY_TrustDeskModel_next.2.1 19 = .ok (.baload, 1) := by decide +kernel
theorem d_TrustDeskModel_next_20 : decode kY_TrustDeskModel_next.2.1 20 = .ok (.bipush 32, 2) := by decide +kernel
theorem d_TrustDeskModel_next_22 : decode kY_TrustDeskModel_next.2.1 22 = .ok (.if_icmp .eq 17, 3) := by decide +kernel
theorem d_TrustDeskModel_next_39 : decode kY_TrustDeskModel_next.2.1 39 = .ok (.aload_n 0, 1) := by decide +kernel
theorem d_TrustDeskModel_next_40 : decode kY_TrustDeskModel_next.2.1 40 = .ok (.dup, 1) := by decide +kernel
theorem d_TrustDeskModel_next_41 : decode kY_TrustDeskModel_next.2.1 41 = .ok (.getfield 192, 3) := by decide +kernel
theorem d_TrustDeskModel_next_44 : decode kY_TrustDeskModel_next.2.1 44 = .ok (.iconst 1, 1) := by decide +kernel
theorem d_TrustDeskModel_next_45 : decode kY_TrustDeskModel_next.2.1 45 = .ok (.iadd, 1) := by decide +kernel
theorem d_TrustDeskModel_next_46 : decode kY_TrustDeskModel_next.2.1 46 = .ok (.putfield 192, 3) := by decide +kernel
theorem d_TrustDeskModel_next_49 : decode kY_TrustDeskModel_next.2.1 49 = .ok (.goto (-49), 3) := by decide +kernel
theorem d_TrustDeskModel_next_25 : decode kY_TrustDeskModel_next.2.1 25 = .ok (.aload_n 0, 1) := by decide +kernel
theorem d_TrustDeskModel_next_26 : decode kY_TrustDeskModel_next.2.1 26 = .ok (.getfield 44, 3) := by decide +kernel
theorem d_TrustDeskModel_next_29 : decode kY_TrustDeskModel_next.2.1 29 = .ok (.aload_n 0, 1) := by decide +kernel
theorem d_TrustDeskModel_next_30 : decode kY_TrustDeskModel_next.2.1 30 = .ok (.getfield 192, 3) := by decide +kernel
theorem d_TrustDeskModel_next_33 : decode kY_TrustDeskModel_next.2.1 33 = .ok (.baload, 1) := by decide +kernel
theorem d_TrustDeskModel_next_34 : decode kY_TrustDeskModel_next.2.1 34 = .ok (.bipush 10, 2) := by decide +kernel
theorem d_TrustDeskModel_next_36 : decode kY_TrustDeskModel_next.2.1 36 = .ok (.if_icmp .ne 16, 3) := by decide +kernel
def w_TrustDeskModel_next_x : List Nat := [1315, 1316, 1317, 1318]
set_option maxHeartbeats 100000000 in theorem tc_TrustDeskModel_next_x {g : mj_G} {l : Launch} {d : Nat} {T0 : tm_H} {M0 : mj_M} {n0 x9 : Nat} {o0 : Nat} (h_o0 : T0 o0 = some (0, 13, 0)) (yR : rI M0 o0) {pb : Nat → Int} {pn : Nat} {pa : Int} {ps : p_S} (yO : pP M0 o0 pb pn pa ps) (I0 : tm_I tm_FT (tm_in w_TrustDeskModel_next_x) x9 T0 M0 n0 T0 M0 n0) : mj_Met g l kY_TrustDeskModel_next (d + 1) [.ref o0] M0 n0 0 0 (tm_Q tm_FT (tm_in w_TrustDeskModel_next_x) x9 T0 M0 n0 (fun r _ M => r = none ∧ rI M o0 ∧ (rT M o0) ∧ (rv M0 o0 15 ≤ rv M o0 16) ∧ (pO M o0 pb pn pa ps))) := by
  refine mj_enter (by decide) (Nat.le_of_ble_eq_true rfl) ?_
  have yB := yO.1
  obtain ⟨pA, hA⟩ : ∃ p : Nat, rv M0 o0 15 = (p : Int) := ⟨(rv M0 o0 15).toNat, by have := yR.1 15 _ _ rfl; omega⟩
  obtain ⟨pst, hst⟩ : ∃ q, p_rn pb pn 4 pA = q := ⟨_, rfl⟩
  have L0_1 : ∀ (k : Nat) (T_1 : tm_H) (M_1 : mj_M) (n_1 : Nat), tm_I tm_FT (tm_in w_TrustDeskModel_next_x) x9 T0 M0 n0 T_1 M_1 n_1 → T_1 o0 = some (0, 13, 0) → rv M0 o0 15 ≤ rv M_1 o0 15 → rv M_1 o0 19 = rv M0 o0 19 → rv M_1 o0 20 = rv M0 o0 20 → (∃ p : Nat, rv M_1 o0 15 = (p : Int) ∧ p_rn pb pn 4 p = pst) → (rI M_1 o0) → (pB M_1 o0 pb pn pa) → 401 - rv M_1 o0 15 < (k : Int) → mj_V g l kY_TrustDeskModel_next (d + 1) 0 [(0, .ref o0)] [] M_1 n_1 0 0 (tm_Q tm_FT (tm_in w_TrustDeskModel_next_x) x9 T0 M0 n0 (fun r _ M => r = none ∧ rI M o0 ∧ (rT M o0) ∧ (rv M0 o0 15 ≤ rv M o0 16) ∧ (pO M o0 pb pn pa ps))) := by
    intro k1
    induction k1 with
    | zero =>
      intro T_1 M_1 n_1 I_1 h_q0_1 iv0_1 iv1_1 iv2_1 iv3_1 kKR_1 kKB9_1 hk1
      have := kKR_1.1 15 _ _ rfl
      have := kKR_1.1 16 _ _ rfl
      have := kKR_1.1 19 _ _ rfl
      exfalso; omega
    | succ k1 ih1 =>
      intro T_1 M_1 n_1 I_1 h_q0_1 iv0_1 iv1_1 iv2_1 iv3_1 kKR_1 kKB9_1 hk1
      obtain ⟨p2, h3, h4⟩ := iv3_1
      have := kKB9_1.1
      refine mv_aload_n d_TrustDeskModel_next_0 rfl rfl ?_
      obtain ⟨v7, q6⟩ := tm_atI I_1 h_q0_1 (k := 15) rfl
      refine tr_getK q6 d_TrustDeskModel_next_1 f_TrustDeskModel_192_13 ?_
      have := kKR_1.f (k := 15) q6 rfl
      have := tm_rv q6
      refine mv_aload_n d_TrustDeskModel_next_4 rfl rfl ?_
      obtain ⟨v9, q8⟩ := tm_atI I_1 h_q0_1 (k := 14) rfl
      refine tr_getK q8 d_TrustDeskModel_next_5 f_TrustDeskModel_189_13 ?_
      have := kKR_1.f (k := 14) q8 rfl
      have := tm_rv q8
      have := mz_hi v7
      have := mz_hi v9
      refine mv_icmp_geZ (tgt := 52) (a := v7.toInt) (b := v9.toInt) d_TrustDeskModel_next_8 (by decide) rfl rfl (fun b10 => ?_) (fun b10 => ?_)
      · refine mv_aload_n d_TrustDeskModel_next_52 rfl rfl ?_
        refine mv_aload_n d_TrustDeskModel_next_53 rfl rfl ?_
        refine tr_getK (k := 15) q6 d_TrustDeskModel_next_54 f_TrustDeskModel_192_13 ?_
        refine tr_putR (k := 16) I_1 kKR_1 h_q0_1 rfl ⟨_, rfl⟩ (fun _ h => by cases h) rfl (fun lo hi h => by cases h; have := kKR_1.1 15 _ _ rfl; have := kKR_1.1 16 _ _ rfl; have := kKR_1.1 19 _ _ rfl; exact ⟨by show (0 : Int) ≤ v7.toInt; omega, by show v7.toInt ≤ (400 : Int); omega⟩) (Or.inl (by decide)) d_TrustDeskModel_next_57 p_TrustDeskModel_195_13 rfl rfl (fun M11 I12 q13 K14 R15 A16 V17 => ?_)
        have z18 := (V17 14 (by decide))
        have z19 := (V17 15 (by decide))
        have z20 := (V17 17 (by decide))
        have z21 := (V17 18 (by decide))
        have z22 := (V17 19 (by decide))
        have z23 := (V17 20 (by decide))
        have z24 : rv M11 o0 16 = v7.toInt := tm_rv q13
        have B925 : pB M11 o0 pb pn pa := kKB9_1.same (V17 14 (by decide)) (V17 23 (by decide)) (A16 13 (by decide))
        have := kKB9_1.1
        have h26 : p2 = pst := (p_rn_end (fun h9 => by have := kKR_1.1 15 _ _ rfl; have := kKR_1.1 16 _ _ rfl; have := kKR_1.1 19 _ _ rfl; omega)).symm.trans h4
        subst h26
        refine mv_aload_n d_TrustDeskModel_next_60 rfl rfl ?_
        refine tr_getK (k := 15) (K14 _ 13 15 _ rfl q6) d_TrustDeskModel_next_61 f_TrustDeskModel_192_13 ?_
        refine mv_aload_n d_TrustDeskModel_next_64 rfl rfl ?_
        refine tr_getK (k := 14) (K14 _ 13 14 _ rfl q8) d_TrustDeskModel_next_65 f_TrustDeskModel_189_13 ?_
        have := mz_hi v7
        have := mz_hi v9
        refine mv_icmp_ltZ (tgt := 77) (a := v7.toInt) (b := v9.toInt) d_TrustDeskModel_next_68 (by decide) rfl rfl (fun b27 => ?_) (fun b27 => ?_)
        · refine mv_aload_n d_TrustDeskModel_next_77 rfl rfl ?_
          obtain ⟨a29, q28, t_a29⟩ := tm_atR I12 h_q0_1 (k := 13) rfl
          refine tr_getK q28 d_TrustDeskModel_next_78 f_TrustDeskModel_44_13 ?_
          refine mv_aload_n d_TrustDeskModel_next_81 rfl rfl ?_
          refine tr_getK (k := 15) (K14 _ 13 15 _ rfl q6) d_TrustDeskModel_next_82 f_TrustDeskModel_192_13 ?_
          refine tr_baldR (o := o0) (k := 13) I12 q28 t_a29 (by decide) d_TrustDeskModel_next_85 (vp_in_iff.mpr (by have := R15.1 15 _ _ rfl; have := R15.1 16 _ _ rfl; have := R15.1 19 _ _ rfl; omega)) (fun v30 e31 => ?_)
          have := R15.a (k := 13) rfl (v7 : Int32).toNatClampNeg
          have := B925.1
          have h32 : v7.toNatClampNeg = p2 := by have := mz_nat9 (i := v7) (by have := R15.1 15 _ _ rfl; have := R15.1 16 _ _ rfl; have := R15.1 19 _ _ rfl; omega); have := R15.1 15 _ _ rfl; have := R15.1 16 _ _ rfl; have := R15.1 19 _ _ rfl; omega
          have := B925.byte (p := p2) (v := v30.toInt) (by have := R15.1 15 _ _ rfl; have := R15.1 16 _ _ rfl; have := R15.1 19 _ _ rfl; omega) (by rw [e31, h32])
          have := p_so_d (pb p2)
          refine mv_istore_n (lv' := [(1, .int v30), (0, .ref o0)]) d_TrustDeskModel_next_86 rfl (by decide) rfl ?_
          refine mv_aload_n d_TrustDeskModel_next_87 rfl rfl ?_
          refine mv_dup d_TrustDeskModel_next_88 rfl ?_
          refine tr_getK (k := 15) (K14 _ 13 15 _ rfl q6) d_TrustDeskModel_next_89 f_TrustDeskModel_192_13 ?_
          refine mv_iconst (v := 1) d_TrustDeskModel_next_92 (by decide) ?_
          refine mv_iadd d_TrustDeskModel_next_93 ?_
          have b33 : (v7 + 1 : Int32).toInt = (v7.toInt + 1) := mz_add2 rfl (by decide) (by have := R15.1 15 _ _ rfl; have := R15.1 16 _ _ rfl; have := R15.1 19 _ _ rfl; omega) (by have := R15.1 15 _ _ rfl; have := R15.1 16 _ _ rfl; have := R15.1 19 _ _ rfl; omega)
          refine tr_putR (k := 15) I12 R15 h_q0_1 rfl ⟨_, rfl⟩ (fun _ h => by cases h) rfl (fun lo hi h => by cases h; have := R15.1 15 _ _ rfl; have := R15.1 16 _ _ rfl; have := R15.1 19 _ _ rfl; exact ⟨by show (0 : Int) ≤ (v7 + 1).toInt; omega, by show (v7 + 1).toInt ≤ (400 : Int); omega⟩) (Or.inl (by decide)) d_TrustDeskModel_next_94 p_TrustDeskModel_192_13 rfl rfl (fun M34 I35 q36 K37 R38 A39 V40 => ?_)
          have z41 := (V40 14 (by decide)).trans z18
          have z42 := (V40 16 (by decide)).trans z24
          have z43 := (V40 17 (by decide)).trans z20
          have z44 := (V40 18 (by decide)).trans z21
          have z45 := (V40 19 (by decide)).trans z22
          have z46 := (V40 20 (by decide)).trans z23
          have z47 : rv M34 o0 15 = (v7 + 1).toInt := tm_rv q36
          have B948 : pB M34 o0 pb pn pa := B925.same (V40 14 (by decide)) (V40 23 (by decide)) (A39 13 (by decide))
          clear z18 z24 z20 z21 z22 z23
          refine mv_aload_n d_TrustDeskModel_next_97 rfl rfl ?_
          refine mv_iload_n d_TrustDeskModel_next_98 rfl rfl ?_
          refine tr_putR (k := 18) I35 R38 h_q0_1 rfl ⟨_, rfl⟩ (fun _ h => by cases h) rfl (fun lo hi h => by cases h; have := R38.1 15 _ _ rfl; have := R38.1 16 _ _ rfl; have := R38.1 19 _ _ rfl; exact ⟨by show ((-128) : Int) ≤ v30.toInt; omega, by show v30.toInt ≤ (9999 : Int); omega⟩) (Or.inl (by decide)) d_TrustDeskModel_next_99 p_TrustDeskModel_201_13 rfl rfl (fun M49 I50 q51 K52 R53 A54 V55 => ?_)
          have z56 := (V55 14 (by decide)).trans z41
          have z57 := (V55 15 (by decide)).trans z47
          have z58 := (V55 16 (by decide)).trans z42
          have z59 := (V55 17 (by decide)).trans z43
          have z60 := (V55 19 (by decide)).trans z45
          have z61 := (V55 20 (by decide)).trans z46
          have z62 : rv M49 o0 18 = v30.toInt := tm_rv q51
          have B963 : pB M49 o0 pb pn pa := B948.same (V55 14 (by decide)) (V55 23 (by decide)) (A54 13 (by decide))
          clear z41 z47 z42 z43 z45 z46
          refine mv_iload_n d_TrustDeskModel_next_102 rfl rfl ?_
          refine mv_callS (kc1 := 0) (ks1 := 0) (kc' := 0) (ks' := 0) (As := [.int v30]) (st9 := [.int v30]) d_TrustDeskModel_next_103 lS_TrustDeskModel_204 (mj_enter (by decide) (Nat.le_of_ble_eq_true rfl) ?_) rfl (Nat.le_of_ble_eq_true rfl) (Nat.le_of_ble_eq_true rfl) (Nat.le_of_ble_eq_true rfl) (hst := rfl) (fun _ _ _ h => h)
          refine mv_iload_n d_TrustDeskModel_isSmall_0 rfl rfl ?_
          refine mv_bipush (v := 97) d_TrustDeskModel_isSmall_1 (by decide) ?_
          have := mz_hi v30
          refine mv_icmp_ltZ (tgt := 16) (a := v30.toInt) (b := 97) d_TrustDeskModel_isSmall_3 (by decide) rfl (by decide) (fun b64 => ?_) (fun b64 => ?_)
          · refine mv_iconst (v := 0) d_TrustDeskModel_isSmall_16 (by decide) ?_
            refine mv_iret d_TrustDeskModel_isSmall_17 rfl (by decide) ?_
            refine mv_if_eq_t (tgt := 144) d_TrustDeskModel_next_106 (by decide) (by decide) ?_
            refine mv_iload_n d_TrustDeskModel_next_144 rfl rfl ?_
            refine mv_callS (kc1 := 0) (ks1 := 0) (kc' := 0) (ks' := 0) (As := [.int v30]) (st9 := [.int v30]) d_TrustDeskModel_next_145 lS_TrustDeskModel_211 (mj_enter (by decide) (Nat.le_of_ble_eq_true rfl) ?_) rfl (Nat.le_of_ble_eq_true rfl) (Nat.le_of_ble_eq_true rfl) (Nat.le_of_ble_eq_true rfl) (hst := rfl) (fun _ _ _ h => h)
            refine mv_iload_n d_TrustDeskModel_isDigit_0 rfl rfl ?_
            refine mv_bipush (v := 48) d_TrustDeskModel_isDigit_1 (by decide) ?_
            have := mz_hi v30
            refine mv_icmp_ltZ (tgt := 16) (a := v30.toInt) (b := 48) d_TrustDeskModel_isDigit_3 (by decide) rfl (by decide) (fun b65 => ?_) (fun b65 => ?_)
            · refine mv_iconst (v := 0) d_TrustDeskModel_isDigit_16 (by decide) ?_
              refine mv_iret d_TrustDeskModel_isDigit_17 rfl (by decide) ?_
              refine mv_if_eq_t (tgt := 247) d_TrustDeskModel_next_148 (by decide) (by decide) ?_
              refine mv_aload_n d_TrustDeskModel_next_247 rfl rfl ?_
              refine mv_iconst (v := 4) d_TrustDeskModel_next_248 (by decide) ?_
              refine tr_putR (k := 17) I50 R53 h_q0_1 rfl ⟨_, rfl⟩ (fun _ h => by cases h) rfl (fun lo hi h => by cases h) (Or.inl (by decide)) d_TrustDeskModel_next_249 p_TrustDeskModel_198_13 rfl rfl (fun M66 I67 q68 K69 R70 A71 V72 => ?_)
              have z73 := (V72 14 (by decide)).trans z56
              have z74 := (V72 15 (by decide)).trans z57
              have z75 := (V72 16 (by decide)).trans z58
              have z76 := (V72 18 (by decide)).trans z62
              have z77 := (V72 19 (by decide)).trans z60
              have z78 := (V72 20 (by decide)).trans z61
              have z79 : rv M66 o0 17 = 4 := tm_rv q68
              have B980 : pB M66 o0 pb pn pa := B963.same (V72 14 (by decide)) (V72 23 (by decide)) (A71 13 (by decide))
              clear z56 z57 z58 z62 z60 z61
              exact mv_vret d_TrustDeskModel_next_252 rfl ⟨_, I67, rfl, R70, (rT_of (by omega) (by omega) (by omega)), (by have := R70.1 15 _ _ rfl; have := R70.1 16 _ _ rfl; have := R70.1 19 _ _ rfl; omega), (pO.nx2 yO B980 (by have := R70.1 15 _ _ rfl; have := R70.1 16 _ _ rfl; have := R70.1 19 _ _ rfl; omega) (by have := R70.1 15 _ _ rfl; have := R70.1 16 _ _ rfl; have := R70.1 19 _ _ rfl; omega) (fun w9 => by have q9 : p_st pb pn ps.2.2 = p2 := (yO.a hA w9).trans hst; exact pT.sign (by rw [q9]; omega) (by rw [q9]; omega) (by rw [q9]; have := R70.1 15 _ _ rfl; have := R70.1 16 _ _ rfl; have := R70.1 19 _ _ rfl; omega) (by rw [q9]; have := R70.1 15 _ _ rfl; have := R70.1 16 _ _ rfl; have := R70.1 19 _ _ rfl; omega) (by have := R70.1 15 _ _ rfl; have := R70.1 16 _ _ rfl; have := R70.1 19 _ _ rfl; omega) (by rw [q9]; omega)))⟩
            · refine mv_iload_n d_TrustDeskModel_isDigit_6 rfl rfl ?_
              refine mv_bipush (v := 57) d_TrustDeskModel_isDigit_7 (by decide) ?_
              have := mz_hi v30
              refine mv_icmp_gtZ (tgt := 16) (a := v30.toInt) (b := 57) d_TrustDeskModel_isDigit_9 (by decide) rfl (by decide) (fun b81 => ?_) (fun b81 => ?_)
              · refine mv_iconst (v := 0) d_TrustDeskModel_isDigit_16 (by decide) ?_
                refine mv_iret d_TrustDeskModel_isDigit_17 rfl (by decide) ?_
                refine mv_if_eq_t (tgt := 247) d_TrustDeskModel_next_148 (by decide) (by decide) ?_
                refine mv_aload_n d_TrustDeskModel_next_247 rfl rfl ?_
                refine mv_iconst (v := 4) d_TrustDeskModel_next_248 (by decide) ?_
                refine tr_putR (k := 17) I50 R53 h_q0_1 rfl ⟨_, rfl⟩ (fun _ h => by cases h) rfl (fun lo hi h => by cases h) (Or.inl (by decide)) d_TrustDeskModel_next_249 p_TrustDeskModel_198_13 rfl rfl (fun M82 I83 q84 K85 R86 A87 V88 => ?_)
                have z89 := (V88 14 (by decide)).trans z56
                have z90 := (V88 15 (by decide)).trans z57
                have z91 := (V88 16 (by decide)).trans z58
                have z92 := (V88 18 (by decide)).trans z62
                have z93 := (V88 19 (by decide)).trans z60
                have z94 := (V88 20 (by decide)).trans z61
                have z95 : rv M82 o0 17 = 4 := tm_rv q84
                have B996 : pB M82 o0 pb pn pa := B963.same (V88 14 (by decide)) (V88 23 (by decide)) (A87 13 (by decide))
                clear z56 z57 z58 z62 z60 z61
                exact mv_vret d_TrustDeskModel_next_252 rfl ⟨_, I83, rfl, R86, (rT_of (by omega) (by omega) (by omega)), (by have := R86.1 15 _ _ rfl; have := R86.1 16 _ _ rfl; have := R86.1 19 _ _ rfl; omega), (pO.nx2 yO B996 (by have := R86.1 15 _ _ rfl; have := R86.1 16 _ _ rfl; have := R86.1 19 _ _ rfl; omega) (by have := R86.1 15 _ _ rfl; have := R86.1 16 _ _ rfl; have := R86.1 19 _ _ rfl; omega) (fun w9 => by have q9 : p_st pb pn ps.2.2 = p2 := (yO.a hA w9).trans hst; exact pT.sign (by rw [q9]; omega) (by rw [q9]; omega) (by rw [q9]; have := R86.1 15 _ _ rfl; have := R86.1 16 _ _ rfl; have := R86.1 19 _ _ rfl; omega) (by rw [q9]; have := R86.1 15 _ _ rfl; have := R86.1 16 _ _ rfl; have := R86.1 19 _ _ rfl; omega) (by have := R86.1 15 _ _ rfl; have := R86.1 16 _ _ rfl; have := R86.1 19 _ _ rfl; omega) (by rw [q9]; omega)))⟩
              · refine mv_iconst (v := 1) d_TrustDeskModel_isDigit_12 (by decide) ?_
                refine mv_goto (tgt := 17) d_TrustDeskModel_isDigit_13 (by decide) ?_
                refine mv_iret d_TrustDeskModel_isDigit_17 rfl (by decide) ?_
                refine mv_if_eq_f (tgt := 247) d_TrustDeskModel_next_148 (by decide) (by decide) ?_
                refine mv_aload_n d_TrustDeskModel_next_151 rfl rfl ?_
                refine mv_iload_n d_TrustDeskModel_next_152 rfl rfl ?_
                refine mv_bipush (v := 48) d_TrustDeskModel_next_153 (by decide) ?_
                refine mv_isub d_TrustDeskModel_next_155 ?_
                have b97 : (v30 - 48 : Int32).toInt = (v30.toInt - 48) := mz_sub2 rfl (by decide) (by have := R53.1 15 _ _ rfl; have := R53.1 16 _ _ rfl; have := R53.1 19 _ _ rfl; omega) (by have := R53.1 15 _ _ rfl; have := R53.1 16 _ _ rfl; have := R53.1 19 _ _ rfl; omega)
                refine tr_putR (k := 18) I50 R53 h_q0_1 rfl ⟨_, rfl⟩ (fun _ h => by cases h) rfl (fun lo hi h => by cases h; have := R53.1 15 _ _ rfl; have := R53.1 16 _ _ rfl; have := R53.1 19 _ _ rfl; exact ⟨by show ((-128) : Int) ≤ (v30 - 48).toInt; omega, by show (v30 - 48).toInt ≤ (9999 : Int); omega⟩) (Or.inl (by decide)) d_TrustDeskModel_next_156 p_TrustDeskModel_201_13 rfl rfl (fun M98 I99 q100 K101 R102 A103 V104 => ?_)
                have z105 := (V104 14 (by decide)).trans z56
                have z106 := (V104 15 (by decide)).trans z57
                have z107 := (V104 16 (by decide)).trans z58
                have z108 := (V104 17 (by decide)).trans z59
                have z109 := (V104 19 (by decide)).trans z60
                have z110 := (V104 20 (by decide)).trans z61
                have z111 : rv M98 o0 18 = (v30 - 48).toInt := tm_rv q100
                have B9112 : pB M98 o0 pb pn pa := B963.same (V104 14 (by decide)) (V104 23 (by decide)) (A103 13 (by decide))
                clear z56 z57 z58 z59 z60 z61
                have L159_113 : ∀ (k : Nat) (T_113 : tm_H) (M_113 : mj_M) (n_113 : Nat), tm_I tm_FT (tm_in w_TrustDeskModel_next_x) x9 T0 M0 n0 T_113 M_113 n_113 → T_113 o0 = some (0, 13, 0) → rv M0 o0 15 ≤ rv M_113 o0 16 → rv M_113 o0 16 < rv M_113 o0 15 → 0 ≤ rv M_113 o0 18 → (rv M_113 o0 15 - rv M_113 o0 16 ≤ 1 → rv M_113 o0 18 ≤ 9) → (rv M_113 o0 15 - rv M_113 o0 16 ≤ 2 → rv M_113 o0 18 ≤ 99) → (rv M_113 o0 15 - rv M_113 o0 16 ≤ 3 → rv M_113 o0 18 ≤ 999) → rv M_113 o0 19 = rv M0 o0 19 → rv M_113 o0 20 = rv M0 o0 20 → rv M_113 o0 16 = (p2 : Int) → p2 < pn → p_so (pb p2) = 2 → (∃ p : Nat, rv M_113 o0 15 = (p : Int) ∧ p ≤ pn ∧ p_rn pb pn 2 p = p_rn pb pn 2 (p2 + 1) ∧ (p ≤ p2 + 4 → rv M_113 o0 18 = p_nu pb (p - p2) p2 0)) → (rI M_113 o0) → (pB M_113 o0 pb pn pa) → 401 - rv M_113 o0 15 < (k : Int) → mj_V g l kY_TrustDeskModel_next (d + 1) 159 [(1, .int v30), (0, .ref o0)] [] M_113 n_113 0 0 (tm_Q tm_FT (tm_in w_TrustDeskModel_next_x) x9 T0 M0 n0 (fun r _ M => r = none ∧ rI M o0 ∧ (rT M o0) ∧ (rv M0 o0 15 ≤ rv M o0 16) ∧ (pO M o0 pb pn pa ps))) := by
                  intro k113
                  induction k113 with
                  | zero =>
                    intro T_113 M_113 n_113 I_113 h_q0_113 iv0_113 iv1_113 iv2_113 iv3_113 iv4_113 iv5_113 iv6_113 iv7_113 iv8_113 iv9_113 iv10_113 iv11_113 kKR_113 kKB9_113 hk113
                    have := kKR_113.1 15 _ _ rfl
                    have := kKR_113.1 16 _ _ rfl
                    have := kKR_113.1 19 _ _ rfl
                    exfalso; omega
                  | succ k113 ih113 =>
                    intro T_113 M_113 n_113 I_113 h_q0_113 iv0_113 iv1_113 iv2_113 iv3_113 iv4_113 iv5_113 iv6_113 iv7_113 iv8_113 iv9_113 iv10_113 iv11_113 kKR_113 kKB9_113 hk113
                    obtain ⟨p114, h115, h117, h116⟩ := iv11_113
                    obtain ⟨h116, h116v⟩ := h116
                    have := kKB9_113.1
                    refine mv_aload_n d_TrustDeskModel_next_159 rfl rfl ?_
                    refine mv_aload_n d_TrustDeskModel_next_160 rfl rfl ?_
                    obtain ⟨v119, q118⟩ := tm_atI I_113 h_q0_113 (k := 15) rfl
                    refine tr_getK q118 d_TrustDeskModel_next_161 f_TrustDeskModel_192_13 ?_
                    have := kKR_113.f (k := 15) q118 rfl
                    have := tm_rv q118
                    obtain ⟨_, b120, -⟩ := I_113.1 _ _ h_q0_113
                    refine mv_callV (kc1 := 0) (ks1 := 0) (kc' := 0) (ks' := 0) (As := [.int v119]) (st9 := [.int v119, .ref o0]) d_TrustDeskModel_next_164 lV_TrustDeskModel_207 b120 rfl (mj_enter (by decide) (Nat.le_of_ble_eq_true rfl) ?_) rfl (Nat.le_of_ble_eq_true rfl) (Nat.le_of_ble_eq_true rfl) (Nat.le_of_ble_eq_true rfl) (hst := rfl) (fun _ _ _ h => h)
                    refine mv_iload_n d_TrustDeskModel_see_0 rfl rfl ?_
                    refine mv_aload_n d_TrustDeskModel_see_1 rfl rfl ?_
                    obtain ⟨v122, q121⟩ := tm_atI I_113 h_q0_113 (k := 14) rfl
                    refine tr_getK q121 d_TrustDeskModel_see_2 f_TrustDeskModel_189_13 ?_
                    have := kKR_113.f (k := 14) q121 rfl
                    have := tm_rv q121
                    have := mz_hi v119
                    have := mz_hi v122
                    refine mv_icmp_geZ (tgt := 17) (a := v119.toInt) (b := v122.toInt) d_TrustDeskModel_see_5 (by decide) rfl rfl (fun b123 => ?_) (fun b123 => ?_)
                    · refine mv_iconst (v := 0) d_TrustDeskModel_see_17 (by decide) ?_
                      refine mv_iret d_TrustDeskModel_see_18 rfl (by first | rfl | decide) ?_
                      refine mv_callS (kc1 := 0) (ks1 := 0) (kc' := 0) (ks' := 0) (As := [.int 0]) (st9 := [.int 0]) d_TrustDeskModel_next_167 lS_TrustDeskModel_211 (mj_enter (by decide) (Nat.le_of_ble_eq_true rfl) ?_) rfl (Nat.le_of_ble_eq_true rfl) (Nat.le_of_ble_eq_true rfl) (Nat.le_of_ble_eq_true rfl) (hst := rfl) (fun _ _ _ h => h)
                      refine mv_iload_n d_TrustDeskModel_isDigit_0 rfl rfl ?_
                      refine mv_bipush (v := 48) d_TrustDeskModel_isDigit_1 (by decide) ?_
                      refine mv_icmp_lt_t (tgt := 16) d_TrustDeskModel_isDigit_3 (by decide) (by decide) ?_
                      refine mv_iconst (v := 0) d_TrustDeskModel_isDigit_16 (by decide) ?_
                      refine mv_iret d_TrustDeskModel_isDigit_17 rfl (by decide) ?_
                      refine mv_if_eq_t (tgt := 222) d_TrustDeskModel_next_170 (by decide) (by decide) ?_
                      refine mv_aload_n d_TrustDeskModel_next_222 rfl rfl ?_
                      refine mv_aload_n d_TrustDeskModel_next_223 rfl rfl ?_
                      refine tr_getK (k := 15) q118 d_TrustDeskModel_next_224 f_TrustDeskModel_192_13 ?_
                      refine mv_aload_n d_TrustDeskModel_next_227 rfl rfl ?_
                      obtain ⟨v125, q124⟩ := tm_atI I_113 h_q0_113 (k := 16) rfl
                      refine tr_getK q124 d_TrustDeskModel_next_228 f_TrustDeskModel_195_13 ?_
                      have := kKR_113.f (k := 16) q124 rfl
                      have := tm_rv q124
                      refine mv_isub d_TrustDeskModel_next_231 ?_
                      refine mv_iconst (v := 4) d_TrustDeskModel_next_232 (by decide) ?_
                      have b126 : (v119 - v125 : Int32).toInt = (v119.toInt - v125.toInt) := mz_sub2 rfl rfl (by have := kKR_113.1 15 _ _ rfl; have := kKR_113.1 16 _ _ rfl; have := kKR_113.1 19 _ _ rfl; omega) (by have := kKR_113.1 15 _ _ rfl; have := kKR_113.1 16 _ _ rfl; have := kKR_113.1 19 _ _ rfl; omega)
                      have := mz_hi (v119 - v125)
                      refine mv_icmp_leZ (tgt := 240) (a := (v119 - v125).toInt) (b := 4) d_TrustDeskModel_next_233 (by decide) rfl (by decide) (fun b127 => ?_) (fun b127 => ?_)
                      · refine mv_iconst (v := 2) d_TrustDeskModel_next_240 (by decide) ?_
                        refine tr_putR (k := 17) I_113 kKR_113 h_q0_113 rfl ⟨_, rfl⟩ (fun _ h => by cases h) rfl (fun lo hi h => by cases h) (Or.inl (by decide)) d_TrustDeskModel_next_241 p_TrustDeskModel_198_13 rfl rfl (fun M128 I129 q130 K131 R132 A133 V134 => ?_)
                        have z135 := (V134 14 (by decide))
                        have z136 := (V134 15 (by decide))
                        have z137 := (V134 16 (by decide))
                        have z138 := (V134 18 (by decide))
                        have z139 := (V134 19 (by decide))
                        have z140 := (V134 20 (by decide))
                        have z141 : rv M128 o0 17 = 2 := tm_rv q130
                        have B9142 : pB M128 o0 pb pn pa := kKB9_113.same (V134 14 (by decide)) (V134 23 (by decide)) (A133 13 (by decide))
                        refine mv_goto (tgt := 252) d_TrustDeskModel_next_244 (by decide) ?_
                        exact mv_vret d_TrustDeskModel_next_252 rfl ⟨_, I129, rfl, R132, (rT_of (by omega) (by omega) (by omega)), (by have := R132.1 15 _ _ rfl; have := R132.1 16 _ _ rfl; have := R132.1 19 _ _ rfl; omega), (pO.nx2 yO B9142 (by have := R132.1 15 _ _ rfl; have := R132.1 16 _ _ rfl; have := R132.1 19 _ _ rfl; omega) (by have := R132.1 15 _ _ rfl; have := R132.1 16 _ _ rfl; have := R132.1 19 _ _ rfl; omega) (fun w9 => by have q9 : p_st pb pn ps.2.2 = p2 := (yO.a hA w9).trans hst; have z9 : p_rn pb pn 2 (p2 + 1) = p114 := h116.symm.trans (p_rn_end (fun h9 => by omega)); exact pT.num (by rw [q9]; omega) (by rw [q9]; assumption) (by rw [q9]; have := R132.1 15 _ _ rfl; have := R132.1 16 _ _ rfl; have := R132.1 19 _ _ rfl; omega) (by rw [q9, z9]; have := R132.1 15 _ _ rfl; have := R132.1 16 _ _ rfl; have := R132.1 19 _ _ rfl; omega) (by have := R132.1 15 _ _ rfl; have := R132.1 16 _ _ rfl; have := R132.1 19 _ _ rfl; omega) (fun z7 => by rw [q9, z9]; have z8 := h116v (by omega); rw [← z8]; exact ⟨by omega, by omega⟩)))⟩
                      · refine mv_iconst (v := 1) d_TrustDeskModel_next_236 (by decide) ?_
                        refine mv_goto (tgt := 241) d_TrustDeskModel_next_237 (by decide) ?_
                        refine tr_putR (k := 17) I_113 kKR_113 h_q0_113 rfl ⟨_, rfl⟩ (fun _ h => by cases h) rfl (fun lo hi h => by cases h) (Or.inl (by decide)) d_TrustDeskModel_next_241 p_TrustDeskModel_198_13 rfl rfl (fun M143 I144 q145 K146 R147 A148 V149 => ?_)
                        have z150 := (V149 14 (by decide))
                        have z151 := (V149 15 (by decide))
                        have z152 := (V149 16 (by decide))
                        have z153 := (V149 18 (by decide))
                        have z154 := (V149 19 (by decide))
                        have z155 := (V149 20 (by decide))
                        have z156 : rv M143 o0 17 = 1 := tm_rv q145
                        have B9157 : pB M143 o0 pb pn pa := kKB9_113.same (V149 14 (by decide)) (V149 23 (by decide)) (A148 13 (by decide))
                        refine mv_goto (tgt := 252) d_TrustDeskModel_next_244 (by decide) ?_
                        exact mv_vret d_TrustDeskModel_next_252 rfl ⟨_, I144, rfl, R147, (rT_of (by omega) (by omega) (by omega)), (by have := R147.1 15 _ _ rfl; have := R147.1 16 _ _ rfl; have := R147.1 19 _ _ rfl; omega), (pO.nx2 yO B9157 (by have := R147.1 15 _ _ rfl; have := R147.1 16 _ _ rfl; have := R147.1 19 _ _ rfl; omega) (by have := R147.1 15 _ _ rfl; have := R147.1 16 _ _ rfl; have := R147.1 19 _ _ rfl; omega) (fun w9 => by have q9 : p_st pb pn ps.2.2 = p2 := (yO.a hA w9).trans hst; have z9 : p_rn pb pn 2 (p2 + 1) = p114 := h116.symm.trans (p_rn_end (fun h9 => by omega)); exact pT.num (by rw [q9]; omega) (by rw [q9]; assumption) (by rw [q9]; have := R147.1 15 _ _ rfl; have := R147.1 16 _ _ rfl; have := R147.1 19 _ _ rfl; omega) (by rw [q9, z9]; have := R147.1 15 _ _ rfl; have := R147.1 16 _ _ rfl; have := R147.1 19 _ _ rfl; omega) (by have := R147.1 15 _ _ rfl; have := R147.1 16 _ _ rfl; have := R147.1 19 _ _ rfl; omega) (fun z7 => by rw [q9, z9]; have z8 := h116v (by omega); rw [← z8]; exact ⟨by omega, by omega⟩)))⟩
                    · refine mv_aload_n d_TrustDeskModel_see_8 rfl rfl ?_
                      obtain ⟨a159, q158, t_a159⟩ := tm_atR I_113 h_q0_113 (k := 13) rfl
                      refine tr_getK q158 d_TrustDeskModel_see_9 f_TrustDeskModel_44_13 ?_
                      refine mv_iload_n d_TrustDeskModel_see_12 rfl rfl ?_
                      refine tr_baldR (o := o0) (k := 13) I_113 q158 t_a159 (by decide) d_TrustDeskModel_see_13 (vp_in_iff.mpr (by have := kKR_113.1 15 _ _ rfl; have := kKR_113.1 16 _ _ rfl; have := kKR_113.1 19 _ _ rfl; omega)) (fun v160 e161 => ?_)
                      have := kKR_113.a (k := 13) rfl (v119 : Int32).toNatClampNeg
                      have := kKB9_113.1
                      have h162 : v119.toNatClampNeg = p114 := by have := mz_nat9 (i := v119) (by have := kKR_113.1 15 _ _ rfl; have := kKR_113.1 16 _ _ rfl; have := kKR_113.1 19 _ _ rfl; omega); have := kKR_113.1 15 _ _ rfl; have := kKR_113.1 16 _ _ rfl; have := kKR_113.1 19 _ _ rfl; omega
                      have := kKB9_113.byte (p := p114) (v := v160.toInt) (by have := kKR_113.1 15 _ _ rfl; have := kKR_113.1 16 _ _ rfl; have := kKR_113.1 19 _ _ rfl; omega) (by rw [e161, h162])
                      have := p_so_d (pb p114)
                      refine mv_goto (tgt := 18) d_TrustDeskModel_see_14 (by decide) ?_
                      refine mv_iret d_TrustDeskModel_see_18 rfl (by first | rfl | decide) ?_
                      refine mv_callS (kc1 := 0) (ks1 := 0) (kc' := 0) (ks' := 0) (As := [.int v160]) (st9 := [.int v160]) d_TrustDeskModel_next_167 lS_TrustDeskModel_211 (mj_enter (by decide) (Nat.le_of_ble_eq_true rfl) ?_) rfl (Nat.le_of_ble_eq_true rfl) (Nat.le_of_ble_eq_true rfl) (Nat.le_of_ble_eq_true rfl) (hst := rfl) (fun _ _ _ h => h)
                      refine mv_iload_n d_TrustDeskModel_isDigit_0 rfl rfl ?_
                      refine mv_bipush (v := 48) d_TrustDeskModel_isDigit_1 (by decide) ?_
                      have := mz_hi v160
                      refine mv_icmp_ltZ (tgt := 16) (a := v160.toInt) (b := 48) d_TrustDeskModel_isDigit_3 (by decide) rfl (by decide) (fun b163 => ?_) (fun b163 => ?_)
                      · refine mv_iconst (v := 0) d_TrustDeskModel_isDigit_16 (by decide) ?_
                        refine mv_iret d_TrustDeskModel_isDigit_17 rfl (by decide) ?_
                        refine mv_if_eq_t (tgt := 222) d_TrustDeskModel_next_170 (by decide) (by decide) ?_
                        refine mv_aload_n d_TrustDeskModel_next_222 rfl rfl ?_
                        refine mv_aload_n d_TrustDeskModel_next_223 rfl rfl ?_
                        refine tr_getK (k := 15) q118 d_TrustDeskModel_next_224 f_TrustDeskModel_192_13 ?_
                        refine mv_aload_n d_TrustDeskModel_next_227 rfl rfl ?_
                        obtain ⟨v165, q164⟩ := tm_atI I_113 h_q0_113 (k := 16) rfl
                        refine tr_getK q164 d_TrustDeskModel_next_228 f_TrustDeskModel_195_13 ?_
                        have := kKR_113.f (k := 16) q164 rfl
                        have := tm_rv q164
                        refine mv_isub d_TrustDeskModel_next_231 ?_
                        refine mv_iconst (v := 4) d_TrustDeskModel_next_232 (by decide) ?_
                        have b166 : (v119 - v165 : Int32).toInt = (v119.toInt - v165.toInt) := mz_sub2 rfl rfl (by have := kKR_113.1 15 _ _ rfl; have := kKR_113.1 16 _ _ rfl; have := kKR_113.1 19 _ _ rfl; omega) (by have := kKR_113.1 15 _ _ rfl; have := kKR_113.1 16 _ _ rfl; have := kKR_113.1 19 _ _ rfl; omega)
                        have := mz_hi (v119 - v165)
                        refine mv_icmp_leZ (tgt := 240) (a := (v119 - v165).toInt) (b := 4) d_TrustDeskModel_next_233 (by decide) rfl (by decide) (fun b167 => ?_) (fun b167 => ?_)
                        · refine mv_iconst (v := 2) d_TrustDeskModel_next_240 (by decide) ?_
                          refine tr_putR (k := 17) I_113 kKR_113 h_q0_113 rfl ⟨_, rfl⟩ (fun _ h => by cases h) rfl (fun lo hi h => by cases h) (Or.inl (by decide)) d_TrustDeskModel_next_241 p_TrustDeskModel_198_13 rfl rfl (fun M168 I169 q170 K171 R172 A173 V174 => ?_)
                          have z175 := (V174 14 (by decide))
                          have z176 := (V174 15 (by decide))
                          have z177 := (V174 16 (by decide))
                          have z178 := (V174 18 (by decide))
                          have z179 := (V174 19 (by decide))
                          have z180 := (V174 20 (by decide))
                          have z181 : rv M168 o0 17 = 2 := tm_rv q170
                          have B9182 : pB M168 o0 pb pn pa := kKB9_113.same (V174 14 (by decide)) (V174 23 (by decide)) (A173 13 (by decide))
                          refine mv_goto (tgt := 252) d_TrustDeskModel_next_244 (by decide) ?_
                          exact mv_vret d_TrustDeskModel_next_252 rfl ⟨_, I169, rfl, R172, (rT_of (by omega) (by omega) (by omega)), (by have := R172.1 15 _ _ rfl; have := R172.1 16 _ _ rfl; have := R172.1 19 _ _ rfl; omega), (pO.nx2 yO B9182 (by have := R172.1 15 _ _ rfl; have := R172.1 16 _ _ rfl; have := R172.1 19 _ _ rfl; omega) (by have := R172.1 15 _ _ rfl; have := R172.1 16 _ _ rfl; have := R172.1 19 _ _ rfl; omega) (fun w9 => by have q9 : p_st pb pn ps.2.2 = p2 := (yO.a hA w9).trans hst; have z9 : p_rn pb pn 2 (p2 + 1) = p114 := h116.symm.trans (p_rn_end (fun h9 => by omega)); exact pT.num (by rw [q9]; omega) (by rw [q9]; assumption) (by rw [q9]; have := R172.1 15 _ _ rfl; have := R172.1 16 _ _ rfl; have := R172.1 19 _ _ rfl; omega) (by rw [q9, z9]; have := R172.1 15 _ _ rfl; have := R172.1 16 _ _ rfl; have := R172.1 19 _ _ rfl; omega) (by have := R172.1 15 _ _ rfl; have := R172.1 16 _ _ rfl; have := R172.1 19 _ _ rfl; omega) (fun z7 => by rw [q9, z9]; have z8 := h116v (by omega); rw [← z8]; exact ⟨by omega, by omega⟩)))⟩
                        · refine mv_iconst (v := 1) d_TrustDeskModel_next_236 (by decide) ?_
                          refine mv_goto (tgt := 241) d_TrustDeskModel_next_237 (by decide) ?_
                          refine tr_putR (k := 17) I_113 kKR_113 h_q0_113 rfl ⟨_, rfl⟩ (fun _ h => by cases h) rfl (fun lo hi h => by cases h) (Or.inl (by decide)) d_TrustDeskModel_next_241 p_TrustDeskModel_198_13 rfl rfl (fun M183 I184 q185 K186 R187 A188 V189 => ?_)
                          have z190 := (V189 14 (by decide))
                          have z191 := (V189 15 (by decide))
                          have z192 := (V189 16 (by decide))
                          have z193 := (V189 18 (by decide))
                          have z194 := (V189 19 (by decide))
                          have z195 := (V189 20 (by decide))
                          have z196 : rv M183 o0 17 = 1 := tm_rv q185
                          have B9197 : pB M183 o0 pb pn pa := kKB9_113.same (V189 14 (by decide)) (V189 23 (by decide)) (A188 13 (by decide))
                          refine mv_goto (tgt := 252) d_TrustDeskModel_next_244 (by decide) ?_
                          exact mv_vret d_TrustDeskModel_next_252 rfl ⟨_, I184, rfl, R187, (rT_of (by omega) (by omega) (by omega)), (by have := R187.1 15 _ _ rfl; have := R187.1 16 _ _ rfl; have := R187.1 19 _ _ rfl; omega), (pO.nx2 yO B9197 (by have := R187.1 15 _ _ rfl; have := R187.1 16 _ _ rfl; have := R187.1 19 _ _ rfl; omega) (by have := R187.1 15 _ _ rfl; have := R187.1 16 _ _ rfl; have := R187.1 19 _ _ rfl; omega) (fun w9 => by have q9 : p_st pb pn ps.2.2 = p2 := (yO.a hA w9).trans hst; have z9 : p_rn pb pn 2 (p2 + 1) = p114 := h116.symm.trans (p_rn_end (fun h9 => by omega)); exact pT.num (by rw [q9]; omega) (by rw [q9]; assumption) (by rw [q9]; have := R187.1 15 _ _ rfl; have := R187.1 16 _ _ rfl; have := R187.1 19 _ _ rfl; omega) (by rw [q9, z9]; have := R187.1 15 _ _ rfl; have := R187.1 16 _ _ rfl; have := R187.1 19 _ _ rfl; omega) (by have := R187.1 15 _ _ rfl; have := R187.1 16 _ _ rfl; have := R187.1 19 _ _ rfl; omega) (fun z7 => by rw [q9, z9]; have z8 := h116v (by omega); rw [← z8]; exact ⟨by omega, by omega⟩)))⟩
                      · refine mv_iload_n d_TrustDeskModel_isDigit_6 rfl rfl ?_
                        refine mv_bipush (v := 57) d_TrustDeskModel_isDigit_7 (by decide) ?_
                        have := mz_hi v160
                        refine mv_icmp_gtZ (tgt := 16) (a := v160.toInt) (b := 57) d_TrustDeskModel_isDigit_9 (by decide) rfl (by decide) (fun b198 => ?_) (fun b198 => ?_)
                        · refine mv_iconst (v := 0) d_TrustDeskModel_isDigit_16 (by decide) ?_
                          refine mv_iret d_TrustDeskModel_isDigit_17 rfl (by decide) ?_
                          refine mv_if_eq_t (tgt := 222) d_TrustDeskModel_next_170 (by decide) (by decide) ?_
                          refine mv_aload_n d_TrustDeskModel_next_222 rfl rfl ?_
                          refine mv_aload_n d_TrustDeskModel_next_223 rfl rfl ?_
                          refine tr_getK (k := 15) q118 d_TrustDeskModel_next_224 f_TrustDeskModel_192_13 ?_
                          refine mv_aload_n d_TrustDeskModel_next_227 rfl rfl ?_
                          obtain ⟨v200, q199⟩ := tm_atI I_113 h_q0_113 (k := 16) rfl
                          refine tr_getK q199 d_TrustDeskModel_next_228 f_TrustDeskModel_195_13 ?_
                          have := kKR_113.f (k := 16) q199 rfl
                          have := tm_rv q199
                          refine mv_isub d_TrustDeskModel_next_231 ?_
                          refine mv_iconst (v := 4) d_TrustDeskModel_next_232 (by decide) ?_
                          have b201 : (v119 - v200 : Int32).toInt = (v119.toInt - v200.toInt) := mz_sub2 rfl rfl (by have := kKR_113.1 15 _ _ rfl; have := kKR_113.1 16 _ _ rfl; have := kKR_113.1 19 _ _ rfl; omega) (by have := kKR_113.1 15 _ _ rfl; have := kKR_113.1 16 _ _ rfl; have := kKR_113.1 19 _ _ rfl; omega)
                          have := mz_hi (v119 - v200)
                          refine mv_icmp_leZ (tgt := 240) (a := (v119 - v200).toInt) (b := 4) d_TrustDeskModel_next_233 (by decide) rfl (by decide) (fun b202 => ?_) (fun b202 => ?_)
                          · refine mv_iconst (v := 2) d_TrustDeskModel_next_240 (by decide) ?_
                            refine tr_putR (k := 17) I_113 kKR_113 h_q0_113 rfl ⟨_, rfl⟩ (fun _ h => by cases h) rfl (fun lo hi h => by cases h) (Or.inl (by decide)) d_TrustDeskModel_next_241 p_TrustDeskModel_198_13 rfl rfl (fun M203 I204 q205 K206 R207 A208 V209 => ?_)
                            have z210 := (V209 14 (by decide))
                            have z211 := (V209 15 (by decide))
                            have z212 := (V209 16 (by decide))
                            have z213 := (V209 18 (by decide))
                            have z214 := (V209 19 (by decide))
                            have z215 := (V209 20 (by decide))
                            have z216 : rv M203 o0 17 = 2 := tm_rv q205
                            have B9217 : pB M203 o0 pb pn pa := kKB9_113.same (V209 14 (by decide)) (V209 23 (by decide)) (A208 13 (by decide))
                            refine mv_goto (tgt := 252) d_TrustDeskModel_next_244 (by decide) ?_
                            exact mv_vret d_TrustDeskModel_next_252 rfl ⟨_, I204, rfl, R207, (rT_of (by omega) (by omega) (by omega)), (by have := R207.1 15 _ _ rfl; have := R207.1 16 _ _ rfl; have := R207.1 19 _ _ rfl; omega), (pO.nx2 yO B9217 (by have := R207.1 15 _ _ rfl; have := R207.1 16 _ _ rfl; have := R207.1 19 _ _ rfl; omega) (by have := R207.1 15 _ _ rfl; have := R207.1 16 _ _ rfl; have := R207.1 19 _ _ rfl; omega) (fun w9 => by have q9 : p_st pb pn ps.2.2 = p2 := (yO.a hA w9).trans hst; have z9 : p_rn pb pn 2 (p2 + 1) = p114 := h116.symm.trans (p_rn_end (fun h9 => by omega)); exact pT.num (by rw [q9]; omega) (by rw [q9]; assumption) (by rw [q9]; have := R207.1 15 _ _ rfl; have := R207.1 16 _ _ rfl; have := R207.1 19 _ _ rfl; omega) (by rw [q9, z9]; have := R207.1 15 _ _ rfl; have := R207.1 16 _ _ rfl; have := R207.1 19 _ _ rfl; omega) (by have := R207.1 15 _ _ rfl; have := R207.1 16 _ _ rfl; have := R207.1 19 _ _ rfl; omega) (fun z7 => by rw [q9, z9]; have z8 := h116v (by omega); rw [← z8]; exact ⟨by omega, by omega⟩)))⟩
                          · refine mv_iconst (v := 1) d_TrustDeskModel_next_236 (by decide) ?_
                            refine mv_goto (tgt := 241) d_TrustDeskModel_next_237 (by decide) ?_
                            refine tr_putR (k := 17) I_113 kKR_113 h_q0_113 rfl ⟨_, rfl⟩ (fun _ h => by cases h) rfl (fun lo hi h => by cases h) (Or.inl (by decide)) d_TrustDeskModel_next_241 p_TrustDeskModel_198_13 rfl rfl (fun M218 I219 q220 K221 R222 A223 V224 => ?_)
                            have z225 := (V224 14 (by decide))
                            have z226 := (V224 15 (by decide))
                            have z227 := (V224 16 (by decide))
                            have z228 := (V224 18 (by decide))
                            have z229 := (V224 19 (by decide))
                            have z230 := (V224 20 (by decide))
                            have z231 : rv M218 o0 17 = 1 := tm_rv q220
                            have B9232 : pB M218 o0 pb pn pa := kKB9_113.same (V224 14 (by decide)) (V224 23 (by decide)) (A223 13 (by decide))
                            refine mv_goto (tgt := 252) d_TrustDeskModel_next_244 (by decide) ?_
                            exact mv_vret d_TrustDeskModel_next_252 rfl ⟨_, I219, rfl, R222, (rT_of (by omega) (by omega) (by omega)), (by have := R222.1 15 _ _ rfl; have := R222.1 16 _ _ rfl; have := R222.1 19 _ _ rfl; omega), (pO.nx2 yO B9232 (by have := R222.1 15 _ _ rfl; have := R222.1 16 _ _ rfl; have := R222.1 19 _ _ rfl; omega) (by have := R222.1 15 _ _ rfl; have := R222.1 16 _ _ rfl; have := R222.1 19 _ _ rfl; omega) (fun w9 => by have q9 : p_st pb pn ps.2.2 = p2 := (yO.a hA w9).trans hst; have z9 : p_rn pb pn 2 (p2 + 1) = p114 := h116.symm.trans (p_rn_end (fun h9 => by omega)); exact pT.num (by rw [q9]; omega) (by rw [q9]; assumption) (by rw [q9]; have := R222.1 15 _ _ rfl; have := R222.1 16 _ _ rfl; have := R222.1 19 _ _ rfl; omega) (by rw [q9, z9]; have := R222.1 15 _ _ rfl; have := R222.1 16 _ _ rfl; have := R222.1 19 _ _ rfl; omega) (by have := R222.1 15 _ _ rfl; have := R222.1 16 _ _ rfl; have := R222.1 19 _ _ rfl; omega) (fun z7 => by rw [q9, z9]; have z8 := h116v (by omega); rw [← z8]; exact ⟨by omega, by omega⟩)))⟩
                        · refine mv_iconst (v := 1) d_TrustDeskModel_isDigit_12 (by decide) ?_
                          refine mv_goto (tgt := 17) d_TrustDeskModel_isDigit_13 (by decide) ?_
                          refine mv_iret d_TrustDeskModel_isDigit_17 rfl (by decide) ?_
                          refine mv_if_eq_f (tgt := 222) d_TrustDeskModel_next_170 (by decide) (by decide) ?_
                          refine mv_aload_n d_TrustDeskModel_next_173 rfl rfl ?_
                          refine tr_getK (k := 15) q118 d_TrustDeskModel_next_174 f_TrustDeskModel_192_13 ?_
                          refine mv_aload_n d_TrustDeskModel_next_177 rfl rfl ?_
                          obtain ⟨v234, q233⟩ := tm_atI I_113 h_q0_113 (k := 16) rfl
                          refine tr_getK q233 d_TrustDeskModel_next_178 f_TrustDeskModel_195_13 ?_
                          have := kKR_113.f (k := 16) q233 rfl
                          have := tm_rv q233
                          refine mv_isub d_TrustDeskModel_next_181 ?_
                          refine mv_iconst (v := 4) d_TrustDeskModel_next_182 (by decide) ?_
                          have b235 : (v119 - v234 : Int32).toInt = (v119.toInt - v234.toInt) := mz_sub2 rfl rfl (by have := kKR_113.1 15 _ _ rfl; have := kKR_113.1 16 _ _ rfl; have := kKR_113.1 19 _ _ rfl; omega) (by have := kKR_113.1 15 _ _ rfl; have := kKR_113.1 16 _ _ rfl; have := kKR_113.1 19 _ _ rfl; omega)
                          have := mz_hi (v119 - v234)
                          refine mv_icmp_geZ (tgt := 209) (a := (v119 - v234).toInt) (b := 4) d_TrustDeskModel_next_183 (by decide) rfl (by decide) (fun b236 => ?_) (fun b236 => ?_)
                          · refine mv_aload_n d_TrustDeskModel_next_209 rfl rfl ?_
                            refine mv_dup d_TrustDeskModel_next_210 rfl ?_
                            refine tr_getK (k := 15) q118 d_TrustDeskModel_next_211 f_TrustDeskModel_192_13 ?_
                            refine mv_iconst (v := 1) d_TrustDeskModel_next_214 (by decide) ?_
                            refine mv_iadd d_TrustDeskModel_next_215 ?_
                            have b237 : (v119 + 1 : Int32).toInt = (v119.toInt + 1) := mz_add2 rfl (by decide) (by have := kKR_113.1 15 _ _ rfl; have := kKR_113.1 16 _ _ rfl; have := kKR_113.1 19 _ _ rfl; omega) (by have := kKR_113.1 15 _ _ rfl; have := kKR_113.1 16 _ _ rfl; have := kKR_113.1 19 _ _ rfl; omega)
                            refine tr_putR (k := 15) I_113 kKR_113 h_q0_113 rfl ⟨_, rfl⟩ (fun _ h => by cases h) rfl (fun lo hi h => by cases h; have := kKR_113.1 15 _ _ rfl; have := kKR_113.1 16 _ _ rfl; have := kKR_113.1 19 _ _ rfl; exact ⟨by show (0 : Int) ≤ (v119 + 1).toInt; omega, by show (v119 + 1).toInt ≤ (400 : Int); omega⟩) (Or.inl (by decide)) d_TrustDeskModel_next_216 p_TrustDeskModel_192_13 rfl rfl (fun M238 I239 q240 K241 R242 A243 V244 => ?_)
                            have z245 := (V244 14 (by decide))
                            have z246 := (V244 16 (by decide))
                            have z247 := (V244 17 (by decide))
                            have z248 := (V244 18 (by decide))
                            have z249 := (V244 19 (by decide))
                            have z250 := (V244 20 (by decide))
                            have z251 : rv M238 o0 15 = (v119 + 1).toInt := tm_rv q240
                            have B9252 : pB M238 o0 pb pn pa := kKB9_113.same (V244 14 (by decide)) (V244 23 (by decide)) (A243 13 (by decide))
                            refine mv_goto (tgt := 159) d_TrustDeskModel_next_219 (by decide) ?_
                            exact (ih113 T_113 M238 n_113 I239 h_q0_113 (by have := R242.1 15 _ _ rfl; have := R242.1 16 _ _ rfl; have := R242.1 19 _ _ rfl; first | omega | decide | exact fun h9 => absurd (by decide) h9) (by have := R242.1 15 _ _ rfl; have := R242.1 16 _ _ rfl; have := R242.1 19 _ _ rfl; first | omega | decide | exact fun h9 => absurd (by decide) h9) (by have := R242.1 15 _ _ rfl; have := R242.1 16 _ _ rfl; have := R242.1 19 _ _ rfl; first | omega | decide | exact fun h9 => absurd (by decide) h9) (by have := R242.1 15 _ _ rfl; have := R242.1 16 _ _ rfl; have := R242.1 19 _ _ rfl; first | omega | decide | exact fun h9 => absurd (by decide) h9) (by have := R242.1 15 _ _ rfl; have := R242.1 16 _ _ rfl; have := R242.1 19 _ _ rfl; first | omega | decide | exact fun h9 => absurd (by decide) h9) (by have := R242.1 15 _ _ rfl; have := R242.1 16 _ _ rfl; have := R242.1 19 _ _ rfl; first | omega | decide | exact fun h9 => absurd (by decide) h9) (by have := R242.1 15 _ _ rfl; have := R242.1 16 _ _ rfl; have := R242.1 19 _ _ rfl; first | omega | decide | exact fun h9 => absurd (by decide) h9) (by have := R242.1 15 _ _ rfl; have := R242.1 16 _ _ rfl; have := R242.1 19 _ _ rfl; first | omega | decide | exact fun h9 => absurd (by decide) h9) (by have := R242.1 15 _ _ rfl; have := R242.1 16 _ _ rfl; have := R242.1 19 _ _ rfl; first | omega | decide | exact fun h9 => absurd (by decide) h9) (by have := R242.1 15 _ _ rfl; have := R242.1 16 _ _ rfl; have := R242.1 19 _ _ rfl; first | omega | decide | exact fun h9 => absurd (by decide) h9) (by have := R242.1 15 _ _ rfl; have := R242.1 16 _ _ rfl; have := R242.1 19 _ _ rfl; first | omega | decide | exact fun h9 => absurd (by decide) h9) ⟨p114 + 1, by have := R242.1 15 _ _ rfl; have := R242.1 16 _ _ rfl; have := R242.1 19 _ _ rfl; omega, by have := R242.1 15 _ _ rfl; have := R242.1 16 _ _ rfl; have := R242.1 19 _ _ rfl; omega, (p_rn_on (by have := R242.1 15 _ _ rfl; have := R242.1 16 _ _ rfl; have := R242.1 19 _ _ rfl; omega) (by omega)).symm.trans h116, fun z9 => by have z8 := h116v (by omega); rw [show p114 + 1 - p2 = (p114 - p2) + 1 from by omega, p_nu_out, ← z8, show p2 + (p114 - p2) = p114 from by omega]; have := R242.1 15 _ _ rfl; have := R242.1 16 _ _ rfl; have := R242.1 19 _ _ rfl; omega⟩ R242 B9252 (by have := R242.1 15 _ _ rfl; have := R242.1 16 _ _ rfl; have := R242.1 19 _ _ rfl; omega))
                          · refine mv_aload_n d_TrustDeskModel_next_186 rfl rfl ?_
                            refine mv_bipush (v := 10) d_TrustDeskModel_next_187 (by decide) ?_
                            refine mv_aload_n d_TrustDeskModel_next_189 rfl rfl ?_
                            obtain ⟨v254, q253⟩ := tm_atI I_113 h_q0_113 (k := 18) rfl
                            refine tr_getK q253 d_TrustDeskModel_next_190 f_TrustDeskModel_201_13 ?_
                            have := kKR_113.f (k := 18) q253 rfl
                            have := tm_rv q253
                            refine mv_imul d_TrustDeskModel_next_193 ?_
                            refine mv_aload_n d_TrustDeskModel_next_194 rfl rfl ?_
                            refine mv_aload_n d_TrustDeskModel_next_195 rfl rfl ?_
                            refine tr_getK (k := 15) q118 d_TrustDeskModel_next_196 f_TrustDeskModel_192_13 ?_
                            obtain ⟨_, b255, -⟩ := I_113.1 _ _ h_q0_113
                            refine mv_callV (kc1 := 0) (ks1 := 0) (kc' := 0) (ks' := 0) (As := [.int v119]) (st9 := [.int v119, .ref o0, .int (10 * v254), .ref o0]) d_TrustDeskModel_next_199 lV_TrustDeskModel_207 b255 rfl (mj_enter (by decide) (Nat.le_of_ble_eq_true rfl) ?_) rfl (Nat.le_of_ble_eq_true rfl) (Nat.le_of_ble_eq_true rfl) (Nat.le_of_ble_eq_true rfl) (hst := rfl) (fun _ _ _ h => h)
                            refine mv_iload_n d_TrustDeskModel_see_0 rfl rfl ?_
                            refine mv_aload_n d_TrustDeskModel_see_1 rfl rfl ?_
                            refine tr_getK (k := 14) q121 d_TrustDeskModel_see_2 f_TrustDeskModel_189_13 ?_
                            have := mz_hi v119
                            have := mz_hi v122
                            refine mv_icmp_geZ (tgt := 17) (a := v119.toInt) (b := v122.toInt) d_TrustDeskModel_see_5 (by decide) rfl rfl (fun b256 => ?_) (fun b256 => ?_)
                            · refine mv_iconst (v := 0) d_TrustDeskModel_see_17 (by decide) ?_
                              refine mv_iret d_TrustDeskModel_see_18 rfl (by first | rfl | decide) ?_
                              refine mv_iadd d_TrustDeskModel_next_202 ?_
                              refine mv_bipush (v := 48) d_TrustDeskModel_next_203 (by decide) ?_
                              refine mv_isub d_TrustDeskModel_next_205 ?_
                              have b257 : (10 * v254 : Int32).toInt = (10 * v254.toInt) := mz_mul2 (by decide) rfl (by have := kKR_113.1 15 _ _ rfl; have := kKR_113.1 16 _ _ rfl; have := kKR_113.1 19 _ _ rfl; omega) (by have := kKR_113.1 15 _ _ rfl; have := kKR_113.1 16 _ _ rfl; have := kKR_113.1 19 _ _ rfl; omega)
                              have b258 : ((10 * v254) + 0 : Int32).toInt = ((10 * v254.toInt) + 0) := mz_add2 b257 (by decide) (by have := kKR_113.1 15 _ _ rfl; have := kKR_113.1 16 _ _ rfl; have := kKR_113.1 19 _ _ rfl; omega) (by have := kKR_113.1 15 _ _ rfl; have := kKR_113.1 16 _ _ rfl; have := kKR_113.1 19 _ _ rfl; omega)
                              have b259 : (((10 * v254) + 0) - 48 : Int32).toInt = (((10 * v254.toInt) + 0) - 48) := mz_sub2 b258 (by decide) (by have := kKR_113.1 15 _ _ rfl; have := kKR_113.1 16 _ _ rfl; have := kKR_113.1 19 _ _ rfl; omega) (by have := kKR_113.1 15 _ _ rfl; have := kKR_113.1 16 _ _ rfl; have := kKR_113.1 19 _ _ rfl; omega)
                              refine tr_putR (k := 18) I_113 kKR_113 h_q0_113 rfl ⟨_, rfl⟩ (fun _ h => by cases h) rfl (fun lo hi h => by cases h; have := kKR_113.1 15 _ _ rfl; have := kKR_113.1 16 _ _ rfl; have := kKR_113.1 19 _ _ rfl; exact ⟨by show ((-128) : Int) ≤ (((10 * v254) + 0) - 48).toInt; omega, by show (((10 * v254) + 0) - 48).toInt ≤ (9999 : Int); omega⟩) (Or.inl (by decide)) d_TrustDeskModel_next_206 p_TrustDeskModel_201_13 rfl rfl (fun M260 I261 q262 K263 R264 A265 V266 => ?_)
                              have z267 := (V266 14 (by decide))
                              have z268 := (V266 15 (by decide))
                              have z269 := (V266 16 (by decide))
                              have z270 := (V266 17 (by decide))
                              have z271 := (V266 19 (by decide))
                              have z272 := (V266 20 (by decide))
                              have z273 : rv M260 o0 18 = (((10 * v254) + 0) - 48).toInt := tm_rv q262
                              have B9274 : pB M260 o0 pb pn pa := kKB9_113.same (V266 14 (by decide)) (V266 23 (by decide)) (A265 13 (by decide))
                              refine mv_aload_n d_TrustDeskModel_next_209 rfl rfl ?_
                              refine mv_dup d_TrustDeskModel_next_210 rfl ?_
                              refine tr_getK (k := 15) (K263 _ 13 15 _ rfl q118) d_TrustDeskModel_next_211 f_TrustDeskModel_192_13 ?_
                              refine mv_iconst (v := 1) d_TrustDeskModel_next_214 (by decide) ?_
                              refine mv_iadd d_TrustDeskModel_next_215 ?_
                              have b275 : (v119 + 1 : Int32).toInt = (v119.toInt + 1) := mz_add2 rfl (by decide) (by have := R264.1 15 _ _ rfl; have := R264.1 16 _ _ rfl; have := R264.1 19 _ _ rfl; omega) (by have := R264.1 15 _ _ rfl; have := R264.1 16 _ _ rfl; have := R264.1 19 _ _ rfl; omega)
                              refine tr_putR (k := 15) I261 R264 h_q0_113 rfl ⟨_, rfl⟩ (fun _ h => by cases h) rfl (fun lo hi h => by cases h; have := R264.1 15 _ _ rfl; have := R264.1 16 _ _ rfl; have := R264.1 19 _ _ rfl; exact ⟨by show (0 : Int) ≤ (v119 + 1).toInt; omega, by show (v119 + 1).toInt ≤ (400 : Int); omega⟩) (Or.inl (by decide)) d_TrustDeskModel_next_216 p_TrustDeskModel_192_13 rfl rfl (fun M276 I277 q278 K279 R280 A281 V282 => ?_)
                              have z283 := (V282 14 (by decide)).trans z267
                              have z284 := (V282 16 (by decide)).trans z269
                              have z285 := (V282 17 (by decide)).trans z270
                              have z286 := (V282 18 (by decide)).trans z273
                              have z287 := (V282 19 (by decide)).trans z271
                              have z288 := (V282 20 (by decide)).trans z272
                              have z289 : rv M276 o0 15 = (v119 + 1).toInt := tm_rv q278
                              have B9290 : pB M276 o0 pb pn pa := B9274.same (V282 14 (by decide)) (V282 23 (by decide)) (A281 13 (by decide))
                              clear z267 z269 z270 z273 z271 z272
                              refine mv_goto (tgt := 159) d_TrustDeskModel_next_219 (by decide) ?_
                              exact (ih113 T_113 M276 n_113 I277 h_q0_113 (by have := R280.1 15 _ _ rfl; have := R280.1 16 _ _ rfl; have := R280.1 19 _ _ rfl; first | omega | decide | exact fun h9 => absurd (by decide) h9) (by have := R280.1 15 _ _ rfl; have := R280.1 16 _ _ rfl; have := R280.1 19 _ _ rfl; first | omega | decide | exact fun h9 => absurd (by decide) h9) (by have := R280.1 15 _ _ rfl; have := R280.1 16 _ _ rfl; have := R280.1 19 _ _ rfl; first | omega | decide | exact fun h9 => absurd (by decide) h9) (by have := R280.1 15 _ _ rfl; have := R280.1 16 _ _ rfl; have := R280.1 19 _ _ rfl; first | omega | decide | exact fun h9 => absurd (by decide) h9) (by have := R280.1 15 _ _ rfl; have := R280.1 16 _ _ rfl; have := R280.1 19 _ _ rfl; first | omega | decide | exact fun h9 => absurd (by decide) h9) (by have := R280.1 15 _ _ rfl; have := R280.1 16 _ _ rfl; have := R280.1 19 _ _ rfl; first | omega | decide | exact fun h9 => absurd (by decide) h9) (by have := R280.1 15 _ _ rfl; have := R280.1 16 _ _ rfl; have := R280.1 19 _ _ rfl; first | omega | decide | exact fun h9 => absurd (by decide) h9) (by have := R280.1 15 _ _ rfl; have := R280.1 16 _ _ rfl; have := R280.1 19 _ _ rfl; first | omega | decide | exact fun h9 => absurd (by decide) h9) (by have := R280.1 15 _ _ rfl; have := R280.1 16 _ _ rfl; have := R280.1 19 _ _ rfl; first | omega | decide | exact fun h9 => absurd (by decide) h9) (by have := R280.1 15 _ _ rfl; have := R280.1 16 _ _ rfl; have := R280.1 19 _ _ rfl; first | omega | decide | exact fun h9 => absurd (by decide) h9) (by have := R280.1 15 _ _ rfl; have := R280.1 16 _ _ rfl; have := R280.1 19 _ _ rfl; first | omega | decide | exact fun h9 => absurd (by decide) h9) ⟨p114 + 1, by have := R280.1 15 _ _ rfl; have := R280.1 16 _ _ rfl; have := R280.1 19 _ _ rfl; omega, by have := R280.1 15 _ _ rfl; have := R280.1 16 _ _ rfl; have := R280.1 19 _ _ rfl; omega, (p_rn_on (by have := R280.1 15 _ _ rfl; have := R280.1 16 _ _ rfl; have := R280.1 19 _ _ rfl; omega) (by omega)).symm.trans h116, fun z9 => by have z8 := h116v (by omega); rw [show p114 + 1 - p2 = (p114 - p2) + 1 from by omega, p_nu_out, ← z8, show p2 + (p114 - p2) = p114 from by omega]; have := R280.1 15 _ _ rfl; have := R280.1 16 _ _ rfl; have := R280.1 19 _ _ rfl; omega⟩ R280 B9290 (by have := R280.1 15 _ _ rfl; have := R280.1 16 _ _ rfl; have := R280.1 19 _ _ rfl; omega))
                            · refine mv_aload_n d_TrustDeskModel_see_8 rfl rfl ?_
                              refine tr_getK (k := 13) q158 d_TrustDeskModel_see_9 f_TrustDeskModel_44_13 ?_
                              refine mv_iload_n d_TrustDeskModel_see_12 rfl rfl ?_
                              refine tr_baldR (o := o0) (k := 13) I_113 q158 t_a159 (by decide) d_TrustDeskModel_see_13 (vp_in_iff.mpr (by have := kKR_113.1 15 _ _ rfl; have := kKR_113.1 16 _ _ rfl; have := kKR_113.1 19 _ _ rfl; omega)) (fun v291 e292 => ?_)
                              have := kKR_113.a (k := 13) rfl (v119 : Int32).toNatClampNeg
                              have := kKB9_113.1
                              have h293 : v119.toNatClampNeg = p114 := by have := mz_nat9 (i := v119) (by have := kKR_113.1 15 _ _ rfl; have := kKR_113.1 16 _ _ rfl; have := kKR_113.1 19 _ _ rfl; omega); have := kKR_113.1 15 _ _ rfl; have := kKR_113.1 16 _ _ rfl; have := kKR_113.1 19 _ _ rfl; omega
                              have := kKB9_113.byte (p := p114) (v := v291.toInt) (by have := kKR_113.1 15 _ _ rfl; have := kKR_113.1 16 _ _ rfl; have := kKR_113.1 19 _ _ rfl; omega) (by rw [e292, h293])
                              have := p_so_d (pb p114)
                              refine mv_goto (tgt := 18) d_TrustDeskModel_see_14 (by decide) ?_
                              refine mv_iret d_TrustDeskModel_see_18 rfl (by first | rfl | decide) ?_
                              refine mv_iadd d_TrustDeskModel_next_202 ?_
                              refine mv_bipush (v := 48) d_TrustDeskModel_next_203 (by decide) ?_
                              refine mv_isub d_TrustDeskModel_next_205 ?_
                              have b294 : (10 * v254 : Int32).toInt = (10 * v254.toInt) := mz_mul2 (by decide) rfl (by have := kKR_113.1 15 _ _ rfl; have := kKR_113.1 16 _ _ rfl; have := kKR_113.1 19 _ _ rfl; omega) (by have := kKR_113.1 15 _ _ rfl; have := kKR_113.1 16 _ _ rfl; have := kKR_113.1 19 _ _ rfl; omega)
                              have b295 : ((10 * v254) + v291 : Int32).toInt = ((10 * v254.toInt) + v291.toInt) := mz_add2 b294 rfl (by have := kKR_113.1 15 _ _ rfl; have := kKR_113.1 16 _ _ rfl; have := kKR_113.1 19 _ _ rfl; omega) (by have := kKR_113.1 15 _ _ rfl; have := kKR_113.1 16 _ _ rfl; have := kKR_113.1 19 _ _ rfl; omega)
                              have b296 : (((10 * v254) + v291) - 48 : Int32).toInt = (((10 * v254.toInt) + v291.toInt) - 48) := mz_sub2 b295 (by decide) (by have := kKR_113.1 15 _ _ rfl; have := kKR_113.1 16 _ _ rfl; have := kKR_113.1 19 _ _ rfl; omega) (by have := kKR_113.1 15 _ _ rfl; have := kKR_113.1 16 _ _ rfl; have := kKR_113.1 19 _ _ rfl; omega)
                              refine tr_putR (k := 18) I_113 kKR_113 h_q0_113 rfl ⟨_, rfl⟩ (fun _ h => by cases h) rfl (fun lo hi h => by cases h; have := kKR_113.1 15 _ _ rfl; have := kKR_113.1 16 _ _ rfl; have := kKR_113.1 19 _ _ rfl; exact ⟨by show ((-128) : Int) ≤ (((10 * v254) + v291) - 48).toInt; omega, by show (((10 * v254) + v291) - 48).toInt ≤ (9999 : Int); omega⟩) (Or.inl (by decide)) d_TrustDeskModel_next_206 p_TrustDeskModel_201_13 rfl rfl (fun M297 I298 q299 K300 R301 A302 V303 => ?_)
                              have z304 := (V303 14 (by decide))
                              have z305 := (V303 15 (by decide))
                              have z306 := (V303 16 (by decide))
                              have z307 := (V303 17 (by decide))
                              have z308 := (V303 19 (by decide))
                              have z309 := (V303 20 (by decide))
                              have z310 : rv M297 o0 18 = (((10 * v254) + v291) - 48).toInt := tm_rv q299
                              have B9311 : pB M297 o0 pb pn pa := kKB9_113.same (V303 14 (by decide)) (V303 23 (by decide)) (A302 13 (by decide))
                              refine mv_aload_n d_TrustDeskModel_next_209 rfl rfl ?_
                              refine mv_dup d_TrustDeskModel_next_210 rfl ?_
                              refine tr_getK (k := 15) (K300 _ 13 15 _ rfl q118) d_TrustDeskModel_next_211 f_TrustDeskModel_192_13 ?_
                              refine mv_iconst (v := 1) d_TrustDeskModel_next_214 (by decide) ?_
                              refine mv_iadd d_TrustDeskModel_next_215 ?_
                              have b312 : (v119 + 1 : Int32).toInt = (v119.toInt + 1) := mz_add2 rfl (by decide) (by have := R301.1 15 _ _ rfl; have := R301.1 16 _ _ rfl; have := R301.1 19 _ _ rfl; omega) (by have := R301.1 15 _ _ rfl; have := R301.1 16 _ _ rfl; have := R301.1 19 _ _ rfl; omega)
                              refine tr_putR (k := 15) I298 R301 h_q0_113 rfl ⟨_, rfl⟩ (fun _ h => by cases h) rfl (fun lo hi h => by cases h; have := R301.1 15 _ _ rfl; have := R301.1 16 _ _ rfl; have := R301.1 19 _ _ rfl; exact ⟨by show (0 : Int) ≤ (v119 + 1).toInt; omega, by show (v119 + 1).toInt ≤ (400 : Int); omega⟩) (Or.inl (by decide)) d_TrustDeskModel_next_216 p_TrustDeskModel_192_13 rfl rfl (fun M313 I314 q315 K316 R317 A318 V319 => ?_)
                              have z320 := (V319 14 (by decide)).trans z304
                              have z321 := (V319 16 (by decide)).trans z306
                              have z322 := (V319 17 (by decide)).trans z307
                              have z323 := (V319 18 (by decide)).trans z310
                              have z324 := (V319 19 (by decide)).trans z308
                              have z325 := (V319 20 (by decide)).trans z309
                              have z326 : rv M313 o0 15 = (v119 + 1).toInt := tm_rv q315
                              have B9327 : pB M313 o0 pb pn pa := B9311.same (V319 14 (by decide)) (V319 23 (by decide)) (A318 13 (by decide))
                              clear z304 z306 z307 z310 z308 z309
                              refine mv_goto (tgt := 159) d_TrustDeskModel_next_219 (by decide) ?_
                              exact (ih113 T_113 M313 n_113 I314 h_q0_113 (by have := R317.1 15 _ _ rfl; have := R317.1 16 _ _ rfl; have := R317.1 19 _ _ rfl; first | omega | decide | exact fun h9 => absurd (by decide) h9) (by have := R317.1 15 _ _ rfl; have := R317.1 16 _ _ rfl; have := R317.1 19 _ _ rfl; first | omega | decide | exact fun h9 => absurd (by decide) h9) (by have := R317.1 15 _ _ rfl; have := R317.1 16 _ _ rfl; have := R317.1 19 _ _ rfl; first | omega | decide | exact fun h9 => absurd (by decide) h9) (by have := R317.1 15 _ _ rfl; have := R317.1 16 _ _ rfl; have := R317.1 19 _ _ rfl; first | omega | decide | exact fun h9 => absurd (by decide) h9) (by have := R317.1 15 _ _ rfl; have := R317.1 16 _ _ rfl; have := R317.1 19 _ _ rfl; first | omega | decide | exact fun h9 => absurd (by decide) h9) (by have := R317.1 15 _ _ rfl; have := R317.1 16 _ _ rfl; have := R317.1 19 _ _ rfl; first | omega | decide | exact fun h9 => absurd (by decide) h9) (by have := R317.1 15 _ _ rfl; have := R317.1 16 _ _ rfl; have := R317.1 19 _ _ rfl; first | omega | decide | exact fun h9 => absurd (by decide) h9) (by have := R317.1 15 _ _ rfl; have := R317.1 16 _ _ rfl; have := R317.1 19 _ _ rfl; first | omega | decide | exact fun h9 => absurd (by decide) h9) (by have := R317.1 15 _ _ rfl; have := R317.1 16 _ _ rfl; have := R317.1 19 _ _ rfl; first | omega | decide | exact fun h9 => absurd (by decide) h9) (by have := R317.1 15 _ _ rfl; have := R317.1 16 _ _ rfl; have := R317.1 19 _ _ rfl; first | omega | decide | exact fun h9 => absurd (by decide) h9) (by have := R317.1 15 _ _ rfl; have := R317.1 16 _ _ rfl; have := R317.1 19 _ _ rfl; first | omega | decide | exact fun h9 => absurd (by decide) h9) ⟨p114 + 1, by have := R317.1 15 _ _ rfl; have := R317.1 16 _ _ rfl; have := R317.1 19 _ _ rfl; omega, by have := R317.1 15 _ _ rfl; have := R317.1 16 _ _ rfl; have := R317.1 19 _ _ rfl; omega, (p_rn_on (by have := R317.1 15 _ _ rfl; have := R317.1 16 _ _ rfl; have := R317.1 19 _ _ rfl; omega) (by omega)).symm.trans h116, fun z9 => by have z8 := h116v (by omega); rw [show p114 + 1 - p2 = (p114 - p2) + 1 from by omega, p_nu_out, ← z8, show p2 + (p114 - p2) = p114 from by omega]; have := R317.1 15 _ _ rfl; have := R317.1 16 _ _ rfl; have := R317.1 19 _ _ rfl; omega⟩ R317 B9327 (by have := R317.1 15 _ _ rfl; have := R317.1 16 _ _ rfl; have := R317.1 19 _ _ rfl; omega))
                exact mv_less (Nat.zero_le _) (Nat.zero_le _) (L159_113 4294967296 T_1 M98 n_1 I99 h_q0_1 (by have := R102.1 15 _ _ rfl; have := R102.1 16 _ _ rfl; have := R102.1 19 _ _ rfl; first | omega | decide | exact fun h9 => absurd (by decide) h9) (by have := R102.1 15 _ _ rfl; have := R102.1 16 _ _ rfl; have := R102.1 19 _ _ rfl; first | omega | decide | exact fun h9 => absurd (by decide) h9) (by have := R102.1 15 _ _ rfl; have := R102.1 16 _ _ rfl; have := R102.1 19 _ _ rfl; first | omega | decide | exact fun h9 => absurd (by decide) h9) (by have := R102.1 15 _ _ rfl; have := R102.1 16 _ _ rfl; have := R102.1 19 _ _ rfl; first | omega | decide | exact fun h9 => absurd (by decide) h9) (by have := R102.1 15 _ _ rfl; have := R102.1 16 _ _ rfl; have := R102.1 19 _ _ rfl; first | omega | decide | exact fun h9 => absurd (by decide) h9) (by have := R102.1 15 _ _ rfl; have := R102.1 16 _ _ rfl; have := R102.1 19 _ _ rfl; first | omega | decide | exact fun h9 => absurd (by decide) h9) (by have := R102.1 15 _ _ rfl; have := R102.1 16 _ _ rfl; have := R102.1 19 _ _ rfl; first | omega | decide | exact fun h9 => absurd (by decide) h9) (by have := R102.1 15 _ _ rfl; have := R102.1 16 _ _ rfl; have := R102.1 19 _ _ rfl; first | omega | decide | exact fun h9 => absurd (by decide) h9) (by have := R102.1 15 _ _ rfl; have := R102.1 16 _ _ rfl; have := R102.1 19 _ _ rfl; first | omega | decide | exact fun h9 => absurd (by decide) h9) (by have := R102.1 15 _ _ rfl; have := R102.1 16 _ _ rfl; have := R102.1 19 _ _ rfl; first | omega | decide | exact fun h9 => absurd (by decide) h9) (by have := R102.1 15 _ _ rfl; have := R102.1 16 _ _ rfl; have := R102.1 19 _ _ rfl; first | omega | decide | exact fun h9 => absurd (by decide) h9) ⟨p2 + 1, by have := R102.1 15 _ _ rfl; have := R102.1 16 _ _ rfl; have := R102.1 19 _ _ rfl; omega, by omega, rfl, fun _ => by rw [show p2 + 1 - p2 = 1 from by omega]; show _ = 10 * 0 + (pb p2 - 48); omega⟩ R102 B9112 (by have := R102.1 15 _ _ rfl; have := R102.1 16 _ _ rfl; have := R102.1 19 _ _ rfl; omega))
          · refine mv_iload_n d_TrustDeskModel_isSmall_6 rfl rfl ?_
            refine mv_bipush (v := 122) d_TrustDeskModel_isSmall_7 (by decide) ?_
            have := mz_hi v30
            refine mv_icmp_gtZ (tgt := 16) (a := v30.toInt) (b := 122) d_TrustDeskModel_isSmall_9 (by decide) rfl (by decide) (fun b328 => ?_) (fun b328 => ?_)
            · refine mv_iconst (v := 0) d_TrustDeskModel_isSmall_16 (by decide) ?_
              refine mv_iret d_TrustDeskModel_isSmall_17 rfl (by decide) ?_
              refine mv_if_eq_t (tgt := 144) d_TrustDeskModel_next_106 (by decide) (by decide) ?_
              refine mv_iload_n d_TrustDeskModel_next_144 rfl rfl ?_
              refine mv_callS (kc1 := 0) (ks1 := 0) (kc' := 0) (ks' := 0) (As := [.int v30]) (st9 := [.int v30]) d_TrustDeskModel_next_145 lS_TrustDeskModel_211 (mj_enter (by decide) (Nat.le_of_ble_eq_true rfl) ?_) rfl (Nat.le_of_ble_eq_true rfl) (Nat.le_of_ble_eq_true rfl) (Nat.le_of_ble_eq_true rfl) (hst := rfl) (fun _ _ _ h => h)
              refine mv_iload_n d_TrustDeskModel_isDigit_0 rfl rfl ?_
              refine mv_bipush (v := 48) d_TrustDeskModel_isDigit_1 (by decide) ?_
              have := mz_hi v30
              refine mv_icmp_ltZ (tgt := 16) (a := v30.toInt) (b := 48) d_TrustDeskModel_isDigit_3 (by decide) rfl (by decide) (fun b329 => absurd b329 (by omega)) (fun b329 => ?_)
              refine mv_iload_n d_TrustDeskModel_isDigit_6 rfl rfl ?_
              refine mv_bipush (v := 57) d_TrustDeskModel_isDigit_7 (by decide) ?_
              have := mz_hi v30
              refine mv_icmp_gtZ (tgt := 16) (a := v30.toInt) (b := 57) d_TrustDeskModel_isDigit_9 (by decide) rfl (by decide) (fun b330 => ?_) (fun b330 => absurd b330 (by omega))
              refine mv_iconst (v := 0) d_TrustDeskModel_isDigit_16 (by decide) ?_
              refine mv_iret d_TrustDeskModel_isDigit_17 rfl (by decide) ?_
              refine mv_if_eq_t (tgt := 247) d_TrustDeskModel_next_148 (by decide) (by decide) ?_
              refine mv_aload_n d_TrustDeskModel_next_247 rfl rfl ?_
              refine mv_iconst (v := 4) d_TrustDeskModel_next_248 (by decide) ?_
              refine tr_putR (k := 17) I50 R53 h_q0_1 rfl ⟨_, rfl⟩ (fun _ h => by cases h) rfl (fun lo hi h => by cases h) (Or.inl (by decide)) d_TrustDeskModel_next_249 p_TrustDeskModel_198_13 rfl rfl (fun M331 I332 q333 K334 R335 A336 V337 => ?_)
              have z338 := (V337 14 (by decide)).trans z56
              have z339 := (V337 15 (by decide)).trans z57
              have z340 := (V337 16 (by decide)).trans z58
              have z341 := (V337 18 (by decide)).trans z62
              have z342 := (V337 19 (by decide)).trans z60
              have z343 := (V337 20 (by decide)).trans z61
              have z344 : rv M331 o0 17 = 4 := tm_rv q333
              have B9345 : pB M331 o0 pb pn pa := B963.same (V337 14 (by decide)) (V337 23 (by decide)) (A336 13 (by decide))
              clear z56 z57 z58 z62 z60 z61
              exact mv_vret d_TrustDeskModel_next_252 rfl ⟨_, I332, rfl, R335, (rT_of (by omega) (by omega) (by omega)), (by have := R335.1 15 _ _ rfl; have := R335.1 16 _ _ rfl; have := R335.1 19 _ _ rfl; omega), (pO.nx2 yO B9345 (by have := R335.1 15 _ _ rfl; have := R335.1 16 _ _ rfl; have := R335.1 19 _ _ rfl; omega) (by have := R335.1 15 _ _ rfl; have := R335.1 16 _ _ rfl; have := R335.1 19 _ _ rfl; omega) (fun w9 => by have q9 : p_st pb pn ps.2.2 = p2 := (yO.a hA w9).trans hst; exact pT.sign (by rw [q9]; omega) (by rw [q9]; omega) (by rw [q9]; have := R335.1 15 _ _ rfl; have := R335.1 16 _ _ rfl; have := R335.1 19 _ _ rfl; omega) (by rw [q9]; have := R335.1 15 _ _ rfl; have := R335.1 16 _ _ rfl; have := R335.1 19 _ _ rfl; omega) (by have := R335.1 15 _ _ rfl; have := R335.1 16 _ _ rfl; have := R335.1 19 _ _ rfl; omega) (by rw [q9]; omega)))⟩
            · refine mv_iconst (v := 1) d_TrustDeskModel_isSmall_12 (by decide) ?_
              refine mv_goto (tgt := 17) d_TrustDeskModel_isSmall_13 (by decide) ?_
              refine mv_iret d_TrustDeskModel_isSmall_17 rfl (by decide) ?_
              refine mv_if_eq_f (tgt := 144) d_TrustDeskModel_next_106 (by decide) (by decide) ?_
              have L109_346 : ∀ (k : Nat) (T_346 : tm_H) (M_346 : mj_M) (n_346 : Nat), tm_I tm_FT (tm_in w_TrustDeskModel_next_x) x9 T0 M0 n0 T_346 M_346 n_346 → T_346 o0 = some (0, 13, 0) → rv M0 o0 15 ≤ rv M_346 o0 16 → rv M_346 o0 16 < rv M_346 o0 15 → rv M_346 o0 19 = rv M0 o0 19 → rv M_346 o0 20 = rv M0 o0 20 → rv M_346 o0 16 = (p2 : Int) → p2 < pn → p_so (pb p2) = 1 → (∃ p : Nat, rv M_346 o0 15 = (p : Int) ∧ p ≤ pn ∧ p_rn pb pn 1 p = p_rn pb pn 1 (p2 + 1)) → (rI M_346 o0) → (pB M_346 o0 pb pn pa) → 401 - rv M_346 o0 15 < (k : Int) → mj_V g l kY_TrustDeskModel_next (d + 1) 109 [(1, .int v30), (0, .ref o0)] [] M_346 n_346 0 0 (tm_Q tm_FT (tm_in w_TrustDeskModel_next_x) x9 T0 M0 n0 (fun r _ M => r = none ∧ rI M o0 ∧ (rT M o0) ∧ (rv M0 o0 15 ≤ rv M o0 16) ∧ (pO M o0 pb pn pa ps))) := by
                intro k346
                induction k346 with
                | zero =>
                  intro T_346 M_346 n_346 I_346 h_q0_346 iv0_346 iv1_346 iv2_346 iv3_346 iv4_346 iv5_346 iv6_346 iv7_346 kKR_346 kKB9_346 hk346
                  have := kKR_346.1 15 _ _ rfl
                  have := kKR_346.1 16 _ _ rfl
                  have := kKR_346.1 19 _ _ rfl
                  exfalso; omega
                | succ k346 ih346 =>
                  intro T_346 M_346 n_346 I_346 h_q0_346 iv0_346 iv1_346 iv2_346 iv3_346 iv4_346 iv5_346 iv6_346 iv7_346 kKR_346 kKB9_346 hk346
                  obtain ⟨p347, h348, h350, h349⟩ := iv7_346
                  have := kKB9_346.1
                  refine mv_aload_n d_TrustDeskModel_next_109 rfl rfl ?_
                  refine mv_aload_n d_TrustDeskModel_next_110 rfl rfl ?_
                  obtain ⟨v352, q351⟩ := tm_atI I_346 h_q0_346 (k := 15) rfl
                  refine tr_getK q351 d_TrustDeskModel_next_111 f_TrustDeskModel_192_13 ?_
                  have := kKR_346.f (k := 15) q351 rfl
                  have := tm_rv q351
                  obtain ⟨_, b353, -⟩ := I_346.1 _ _ h_q0_346
                  refine mv_callV (kc1 := 0) (ks1 := 0) (kc' := 0) (ks' := 0) (As := [.int v352]) (st9 := [.int v352, .ref o0]) d_TrustDeskModel_next_114 lV_TrustDeskModel_207 b353 rfl (mj_enter (by decide) (Nat.le_of_ble_eq_true rfl) ?_) rfl (Nat.le_of_ble_eq_true rfl) (Nat.le_of_ble_eq_true rfl) (Nat.le_of_ble_eq_true rfl) (hst := rfl) (fun _ _ _ h => h)
                  refine mv_iload_n d_TrustDeskModel_see_0 rfl rfl ?_
                  refine mv_aload_n d_TrustDeskModel_see_1 rfl rfl ?_
                  obtain ⟨v355, q354⟩ := tm_atI I_346 h_q0_346 (k := 14) rfl
                  refine tr_getK q354 d_TrustDeskModel_see_2 f_TrustDeskModel_189_13 ?_
                  have := kKR_346.f (k := 14) q354 rfl
                  have := tm_rv q354
                  have := mz_hi v352
                  have := mz_hi v355
                  refine mv_icmp_geZ (tgt := 17) (a := v352.toInt) (b := v355.toInt) d_TrustDeskModel_see_5 (by decide) rfl rfl (fun b356 => ?_) (fun b356 => ?_)
                  · refine mv_iconst (v := 0) d_TrustDeskModel_see_17 (by decide) ?_
                    refine mv_iret d_TrustDeskModel_see_18 rfl (by first | rfl | decide) ?_
                    refine mv_callS (kc1 := 0) (ks1 := 0) (kc' := 0) (ks' := 0) (As := [.int 0]) (st9 := [.int 0]) d_TrustDeskModel_next_117 lS_TrustDeskModel_204 (mj_enter (by decide) (Nat.le_of_ble_eq_true rfl) ?_) rfl (Nat.le_of_ble_eq_true rfl) (Nat.le_of_ble_eq_true rfl) (Nat.le_of_ble_eq_true rfl) (hst := rfl) (fun _ _ _ h => h)
                    refine mv_iload_n d_TrustDeskModel_isSmall_0 rfl rfl ?_
                    refine mv_bipush (v := 97) d_TrustDeskModel_isSmall_1 (by decide) ?_
                    refine mv_icmp_lt_t (tgt := 16) d_TrustDeskModel_isSmall_3 (by decide) (by decide) ?_
                    refine mv_iconst (v := 0) d_TrustDeskModel_isSmall_16 (by decide) ?_
                    refine mv_iret d_TrustDeskModel_isSmall_17 rfl (by decide) ?_
                    refine mv_if_eq_t (tgt := 136) d_TrustDeskModel_next_120 (by decide) (by decide) ?_
                    refine mv_aload_n d_TrustDeskModel_next_136 rfl rfl ?_
                    refine mv_iconst (v := 3) d_TrustDeskModel_next_137 (by decide) ?_
                    refine tr_putR (k := 17) I_346 kKR_346 h_q0_346 rfl ⟨_, rfl⟩ (fun _ h => by cases h) rfl (fun lo hi h => by cases h) (Or.inl (by decide)) d_TrustDeskModel_next_138 p_TrustDeskModel_198_13 rfl rfl (fun M357 I358 q359 K360 R361 A362 V363 => ?_)
                    have z364 := (V363 14 (by decide))
                    have z365 := (V363 15 (by decide))
                    have z366 := (V363 16 (by decide))
                    have z367 := (V363 18 (by decide))
                    have z368 := (V363 19 (by decide))
                    have z369 := (V363 20 (by decide))
                    have z370 : rv M357 o0 17 = 3 := tm_rv q359
                    have B9371 : pB M357 o0 pb pn pa := kKB9_346.same (V363 14 (by decide)) (V363 23 (by decide)) (A362 13 (by decide))
                    refine mv_goto (tgt := 252) d_TrustDeskModel_next_141 (by decide) ?_
                    exact mv_vret d_TrustDeskModel_next_252 rfl ⟨_, I358, rfl, R361, (rT_of (by omega) (by omega) (by omega)), (by have := R361.1 15 _ _ rfl; have := R361.1 16 _ _ rfl; have := R361.1 19 _ _ rfl; omega), (pO.nx2 yO B9371 (by have := R361.1 15 _ _ rfl; have := R361.1 16 _ _ rfl; have := R361.1 19 _ _ rfl; omega) (by have := R361.1 15 _ _ rfl; have := R361.1 16 _ _ rfl; have := R361.1 19 _ _ rfl; omega) (fun w9 => by have q9 : p_st pb pn ps.2.2 = p2 := (yO.a hA w9).trans hst; have z9 : p_rn pb pn 1 (p2 + 1) = p347 := h349.symm.trans (p_rn_end (fun h9 => by omega)); exact pT.word (by rw [q9]; omega) (by rw [q9]; assumption) (by rw [q9]; have := R361.1 15 _ _ rfl; have := R361.1 16 _ _ rfl; have := R361.1 19 _ _ rfl; omega) (by rw [q9, z9]; have := R361.1 15 _ _ rfl; have := R361.1 16 _ _ rfl; have := R361.1 19 _ _ rfl; omega) (by have := R361.1 15 _ _ rfl; have := R361.1 16 _ _ rfl; have := R361.1 19 _ _ rfl; omega)))⟩
                  · refine mv_aload_n d_TrustDeskModel_see_8 rfl rfl ?_
                    obtain ⟨a373, q372, t_a373⟩ := tm_atR I_346 h_q0_346 (k := 13) rfl
                    refine tr_getK q372 d_TrustDeskModel_see_9 f_TrustDeskModel_44_13 ?_
                    refine mv_iload_n d_TrustDeskModel_see_12 rfl rfl ?_
                    refine tr_baldR (o := o0) (k := 13) I_346 q372 t_a373 (by decide) d_TrustDeskModel_see_13 (vp_in_iff.mpr (by have := kKR_346.1 15 _ _ rfl; have := kKR_346.1 16 _ _ rfl; have := kKR_346.1 19 _ _ rfl; omega)) (fun v374 e375 => ?_)
                    have := kKR_346.a (k := 13) rfl (v352 : Int32).toNatClampNeg
                    have := kKB9_346.1
                    have h376 : v352.toNatClampNeg = p347 := by have := mz_nat9 (i := v352) (by have := kKR_346.1 15 _ _ rfl; have := kKR_346.1 16 _ _ rfl; have := kKR_346.1 19 _ _ rfl; omega); have := kKR_346.1 15 _ _ rfl; have := kKR_346.1 16 _ _ rfl; have := kKR_346.1 19 _ _ rfl; omega
                    have := kKB9_346.byte (p := p347) (v := v374.toInt) (by have := kKR_346.1 15 _ _ rfl; have := kKR_346.1 16 _ _ rfl; have := kKR_346.1 19 _ _ rfl; omega) (by rw [e375, h376])
                    have := p_so_d (pb p347)
                    refine mv_goto (tgt := 18) d_TrustDeskModel_see_14 (by decide) ?_
                    refine mv_iret d_TrustDeskModel_see_18 rfl (by first | rfl | decide) ?_
                    refine mv_callS (kc1 := 0) (ks1 := 0) (kc' := 0) (ks' := 0) (As := [.int v374]) (st9 := [.int v374]) d_TrustDeskModel_next_117 lS_TrustDeskModel_204 (mj_enter (by decide) (Nat.le_of_ble_eq_true rfl) ?_) rfl (Nat.le_of_ble_eq_true rfl) (Nat.le_of_ble_eq_true rfl) (Nat.le_of_ble_eq_true rfl) (hst := rfl) (fun _ _ _ h => h)
                    refine mv_iload_n d_TrustDeskModel_isSmall_0 rfl rfl ?_
                    refine mv_bipush (v := 97) d_TrustDeskModel_isSmall_1 (by decide) ?_
                    have := mz_hi v374
                    refine mv_icmp_ltZ (tgt := 16) (a := v374.toInt) (b := 97) d_TrustDeskModel_isSmall_3 (by decide) rfl (by decide) (fun b377 => ?_) (fun b377 => ?_)
                    · refine mv_iconst (v := 0) d_TrustDeskModel_isSmall_16 (by decide) ?_
                      refine mv_iret d_TrustDeskModel_isSmall_17 rfl (by decide) ?_
                      refine mv_if_eq_t (tgt := 136) d_TrustDeskModel_next_120 (by decide) (by decide) ?_
                      refine mv_aload_n d_TrustDeskModel_next_136 rfl rfl ?_
                      refine mv_iconst (v := 3) d_TrustDeskModel_next_137 (by decide) ?_
                      refine tr_putR (k := 17) I_346 kKR_346 h_q0_346 rfl ⟨_, rfl⟩ (fun _ h => by cases h) rfl (fun lo hi h => by cases h) (Or.inl (by decide)) d_TrustDeskModel_next_138 p_TrustDeskModel_198_13 rfl rfl (fun M378 I379 q380 K381 R382 A383 V384 => ?_)
                      have z385 := (V384 14 (by decide))
                      have z386 := (V384 15 (by decide))
                      have z387 := (V384 16 (by decide))
                      have z388 := (V384 18 (by decide))
                      have z389 := (V384 19 (by decide))
                      have z390 := (V384 20 (by decide))
                      have z391 : rv M378 o0 17 = 3 := tm_rv q380
                      have B9392 : pB M378 o0 pb pn pa := kKB9_346.same (V384 14 (by decide)) (V384 23 (by decide)) (A383 13 (by decide))
                      refine mv_goto (tgt := 252) d_TrustDeskModel_next_141 (by decide) ?_
                      exact mv_vret d_TrustDeskModel_next_252 rfl ⟨_, I379, rfl, R382, (rT_of (by omega) (by omega) (by omega)), (by have := R382.1 15 _ _ rfl; have := R382.1 16 _ _ rfl; have := R382.1 19 _ _ rfl; omega), (pO.nx2 yO B9392 (by have := R382.1 15 _ _ rfl; have := R382.1 16 _ _ rfl; have := R382.1 19 _ _ rfl; omega) (by have := R382.1 15 _ _ rfl; have := R382.1 16 _ _ rfl; have := R382.1 19 _ _ rfl; omega) (fun w9 => by have q9 : p_st pb pn ps.2.2 = p2 := (yO.a hA w9).trans hst; have z9 : p_rn pb pn 1 (p2 + 1) = p347 := h349.symm.trans (p_rn_end (fun h9 => by omega)); exact pT.word (by rw [q9]; omega) (by rw [q9]; assumption) (by rw [q9]; have := R382.1 15 _ _ rfl; have := R382.1 16 _ _ rfl; have := R382.1 19 _ _ rfl; omega) (by rw [q9, z9]; have := R382.1 15 _ _ rfl; have := R382.1 16 _ _ rfl; have := R382.1 19 _ _ rfl; omega) (by have := R382.1 15 _ _ rfl; have := R382.1 16 _ _ rfl; have := R382.1 19 _ _ rfl; omega)))⟩
                    · refine mv_iload_n d_TrustDeskModel_isSmall_6 rfl rfl ?_
                      refine mv_bipush (v := 122) d_TrustDeskModel_isSmall_7 (by decide) ?_
                      have := mz_hi v374
                      refine mv_icmp_gtZ (tgt := 16) (a := v374.toInt) (b := 122) d_TrustDeskModel_isSmall_9 (by decide) rfl (by decide) (fun b393 => ?_) (fun b393 => ?_)
                      · refine mv_iconst (v := 0) d_TrustDeskModel_isSmall_16 (by decide) ?_
                        refine mv_iret d_TrustDeskModel_isSmall_17 rfl (by decide) ?_
                        refine mv_if_eq_t (tgt := 136) d_TrustDeskModel_next_120 (by decide) (by decide) ?_
                        refine mv_aload_n d_TrustDeskModel_next_136 rfl rfl ?_
                        refine mv_iconst (v := 3) d_TrustDeskModel_next_137 (by decide) ?_
                        refine tr_putR (k := 17) I_346 kKR_346 h_q0_346 rfl ⟨_, rfl⟩ (fun _ h => by cases h) rfl (fun lo hi h => by cases h) (Or.inl (by decide)) d_TrustDeskModel_next_138 p_TrustDeskModel_198_13 rfl rfl (fun M394 I395 q396 K397 R398 A399 V400 => ?_)
                        have z401 := (V400 14 (by decide))
                        have z402 := (V400 15 (by decide))
                        have z403 := (V400 16 (by decide))
                        have z404 := (V400 18 (by decide))
                        have z405 := (V400 19 (by decide))
                        have z406 := (V400 20 (by decide))
                        have z407 : rv M394 o0 17 = 3 := tm_rv q396
                        have B9408 : pB M394 o0 pb pn pa := kKB9_346.same (V400 14 (by decide)) (V400 23 (by decide)) (A399 13 (by decide))
                        refine mv_goto (tgt := 252) d_TrustDeskModel_next_141 (by decide) ?_
                        exact mv_vret d_TrustDeskModel_next_252 rfl ⟨_, I395, rfl, R398, (rT_of (by omega) (by omega) (by omega)), (by have := R398.1 15 _ _ rfl; have := R398.1 16 _ _ rfl; have := R398.1 19 _ _ rfl; omega), (pO.nx2 yO B9408 (by have := R398.1 15 _ _ rfl; have := R398.1 16 _ _ rfl; have := R398.1 19 _ _ rfl; omega) (by have := R398.1 15 _ _ rfl; have := R398.1 16 _ _ rfl; have := R398.1 19 _ _ rfl; omega) (fun w9 => by have q9 : p_st pb pn ps.2.2 = p2 := (yO.a hA w9).trans hst; have z9 : p_rn pb pn 1 (p2 + 1) = p347 := h349.symm.trans (p_rn_end (fun h9 => by omega)); exact pT.word (by rw [q9]; omega) (by rw [q9]; assumption) (by rw [q9]; have := R398.1 15 _ _ rfl; have := R398.1 16 _ _ rfl; have := R398.1 19 _ _ rfl; omega) (by rw [q9, z9]; have := R398.1 15 _ _ rfl; have := R398.1 16 _ _ rfl; have := R398.1 19 _ _ rfl; omega) (by have := R398.1 15 _ _ rfl; have := R398.1 16 _ _ rfl; have := R398.1 19 _ _ rfl; omega)))⟩
                      · refine mv_iconst (v := 1) d_TrustDeskModel_isSmall_12 (by decide) ?_
                        refine mv_goto (tgt := 17) d_TrustDeskModel_isSmall_13 (by decide) ?_
                        refine mv_iret d_TrustDeskModel_isSmall_17 rfl (by decide) ?_
                        refine mv_if_eq_f (tgt := 136) d_TrustDeskModel_next_120 (by decide) (by decide) ?_
                        refine mv_aload_n d_TrustDeskModel_next_123 rfl rfl ?_
                        refine mv_dup d_TrustDeskModel_next_124 rfl ?_
                        refine tr_getK (k := 15) q351 d_TrustDeskModel_next_125 f_TrustDeskModel_192_13 ?_
                        refine mv_iconst (v := 1) d_TrustDeskModel_next_128 (by decide) ?_
                        refine mv_iadd d_TrustDeskModel_next_129 ?_
                        have b409 : (v352 + 1 : Int32).toInt = (v352.toInt + 1) := mz_add2 rfl (by decide) (by have := kKR_346.1 15 _ _ rfl; have := kKR_346.1 16 _ _ rfl; have := kKR_346.1 19 _ _ rfl; omega) (by have := kKR_346.1 15 _ _ rfl; have := kKR_346.1 16 _ _ rfl; have := kKR_346.1 19 _ _ rfl; omega)
                        refine tr_putR (k := 15) I_346 kKR_346 h_q0_346 rfl ⟨_, rfl⟩ (fun _ h => by cases h) rfl (fun lo hi h => by cases h; have := kKR_346.1 15 _ _ rfl; have := kKR_346.1 16 _ _ rfl; have := kKR_346.1 19 _ _ rfl; exact ⟨by show (0 : Int) ≤ (v352 + 1).toInt; omega, by show (v352 + 1).toInt ≤ (400 : Int); omega⟩) (Or.inl (by decide)) d_TrustDeskModel_next_130 p_TrustDeskModel_192_13 rfl rfl (fun M410 I411 q412 K413 R414 A415 V416 => ?_)
                        have z417 := (V416 14 (by decide))
                        have z418 := (V416 16 (by decide))
                        have z419 := (V416 17 (by decide))
                        have z420 := (V416 18 (by decide))
                        have z421 := (V416 19 (by decide))
                        have z422 := (V416 20 (by decide))
                        have z423 : rv M410 o0 15 = (v352 + 1).toInt := tm_rv q412
                        have B9424 : pB M410 o0 pb pn pa := kKB9_346.same (V416 14 (by decide)) (V416 23 (by decide)) (A415 13 (by decide))
                        refine mv_goto (tgt := 109) d_TrustDeskModel_next_133 (by decide) ?_
                        exact (ih346 T_346 M410 n_346 I411 h_q0_346 (by have := R414.1 15 _ _ rfl; have := R414.1 16 _ _ rfl; have := R414.1 19 _ _ rfl; first | omega | decide | exact fun h9 => absurd (by decide) h9) (by have := R414.1 15 _ _ rfl; have := R414.1 16 _ _ rfl; have := R414.1 19 _ _ rfl; first | omega | decide | exact fun h9 => absurd (by decide) h9) (by have := R414.1 15 _ _ rfl; have := R414.1 16 _ _ rfl; have := R414.1 19 _ _ rfl; first | omega | decide | exact fun h9 => absurd (by decide) h9) (by have := R414.1 15 _ _ rfl; have := R414.1 16 _ _ rfl; have := R414.1 19 _ _ rfl; first | omega | decide | exact fun h9 => absurd (by decide) h9) (by have := R414.1 15 _ _ rfl; have := R414.1 16 _ _ rfl; have := R414.1 19 _ _ rfl; first | omega | decide | exact fun h9 => absurd (by decide) h9) (by have := R414.1 15 _ _ rfl; have := R414.1 16 _ _ rfl; have := R414.1 19 _ _ rfl; first | omega | decide | exact fun h9 => absurd (by decide) h9) (by have := R414.1 15 _ _ rfl; have := R414.1 16 _ _ rfl; have := R414.1 19 _ _ rfl; first | omega | decide | exact fun h9 => absurd (by decide) h9) ⟨p347 + 1, by have := R414.1 15 _ _ rfl; have := R414.1 16 _ _ rfl; have := R414.1 19 _ _ rfl; omega, by have := R414.1 15 _ _ rfl; have := R414.1 16 _ _ rfl; have := R414.1 19 _ _ rfl; omega, (p_rn_on (by have := R414.1 15 _ _ rfl; have := R414.1 16 _ _ rfl; have := R414.1 19 _ _ rfl; omega) (by omega)).symm.trans h349⟩ R414 B9424 (by have := R414.1 15 _ _ rfl; have := R414.1 16 _ _ rfl; have := R414.1 19 _ _ rfl; omega))
              exact mv_less (Nat.zero_le _) (Nat.zero_le _) (L109_346 4294967296 T_1 M49 n_1 I50 h_q0_1 (by have := R53.1 15 _ _ rfl; have := R53.1 16 _ _ rfl; have := R53.1 19 _ _ rfl; first | omega | decide | exact fun h9 => absurd (by decide) h9) (by have := R53.1 15 _ _ rfl; have := R53.1 16 _ _ rfl; have := R53.1 19 _ _ rfl; first | omega | decide | exact fun h9 => absurd (by decide) h9) (by have := R53.1 15 _ _ rfl; have := R53.1 16 _ _ rfl; have := R53.1 19 _ _ rfl; first | omega | decide | exact fun h9 => absurd (by decide) h9) (by have := R53.1 15 _ _ rfl; have := R53.1 16 _ _ rfl; have := R53.1 19 _ _ rfl; first | omega | decide | exact fun h9 => absurd (by decide) h9) (by have := R53.1 15 _ _ rfl; have := R53.1 16 _ _ rfl; have := R53.1 19 _ _ rfl; first | omega | decide | exact fun h9 => absurd (by decide) h9) (by have := R53.1 15 _ _ rfl; have := R53.1 16 _ _ rfl; have := R53.1 19 _ _ rfl; first | omega | decide | exact fun h9 => absurd (by decide) h9) (by have := R53.1 15 _ _ rfl; have := R53.1 16 _ _ rfl; have := R53.1 19 _ _ rfl; first | omega | decide | exact fun h9 => absurd (by decide) h9) ⟨p2 + 1, by have := R53.1 15 _ _ rfl; have := R53.1 16 _ _ rfl; have := R53.1 19 _ _ rfl; omega, by omega, rfl⟩ R53 B963 (by have := R53.1 15 _ _ rfl; have := R53.1 16 _ _ rfl; have := R53.1 19 _ _ rfl; omega))
        · refine mv_aload_n d_TrustDeskModel_next_71 rfl rfl ?_
          refine mv_iconst (v := 0) d_TrustDeskModel_next_72 (by decide) ?_
          refine tr_putR (k := 17) I12 R15 h_q0_1 rfl ⟨_, rfl⟩ (fun _ h => by cases h) rfl (fun lo hi h => by cases h) (Or.inl (by decide)) d_TrustDeskModel_next_73 p_TrustDeskModel_198_13 rfl rfl (fun M425 I426 q427 K428 R429 A430 V431 => ?_)
          have z432 := (V431 14 (by decide)).trans z18
          have z433 := (V431 15 (by decide)).trans z19
          have z434 := (V431 16 (by decide)).trans z24
          have z435 := (V431 18 (by decide)).trans z21
          have z436 := (V431 19 (by decide)).trans z22
          have z437 := (V431 20 (by decide)).trans z23
          have z438 : rv M425 o0 17 = 0 := tm_rv q427
          have B9439 : pB M425 o0 pb pn pa := B925.same (V431 14 (by decide)) (V431 23 (by decide)) (A430 13 (by decide))
          clear z18 z19 z24 z21 z22 z23
          exact mv_vret d_TrustDeskModel_next_76 rfl ⟨_, I426, rfl, R429, (rT_of (by omega) (by omega) (by omega)), (by have := R429.1 15 _ _ rfl; have := R429.1 16 _ _ rfl; have := R429.1 19 _ _ rfl; omega), (pO.nx2 yO B9439 (by have := R429.1 15 _ _ rfl; have := R429.1 16 _ _ rfl; have := R429.1 19 _ _ rfl; omega) (by have := R429.1 15 _ _ rfl; have := R429.1 16 _ _ rfl; have := R429.1 19 _ _ rfl; omega) (fun w9 => by have q9 : p_st pb pn ps.2.2 = p2 := (yO.a hA w9).trans hst; exact pT.over (by rw [q9]; omega) (by rw [q9]; have := R429.1 15 _ _ rfl; have := R429.1 16 _ _ rfl; have := R429.1 19 _ _ rfl; omega) (by rw [q9]; have := R429.1 15 _ _ rfl; have := R429.1 16 _ _ rfl; have := R429.1 19 _ _ rfl; omega) (by have := R429.1 15 _ _ rfl; have := R429.1 16 _ _ rfl; have := R429.1 19 _ _ rfl; omega)))⟩
      · refine mv_aload_n d_TrustDeskModel_next_11 rfl rfl ?_
        obtain ⟨a441, q440, t_a441⟩ := tm_atR I_1 h_q0_1 (k := 13) rfl
        refine tr_getK q440 d_TrustDeskModel_next_12 f_TrustDeskModel_44_13 ?_
        refine mv_aload_n d_TrustDeskModel_next_15 rfl rfl ?_
        refine tr_getK (k := 15) q6 d_TrustDeskModel_next_16 f_TrustDeskModel_192_13 ?_
        refine tr_baldR (o := o0) (k := 13) I_1 q440 t_a441 (by decide) d_TrustDeskModel_next_19 (vp_in_iff.mpr (by have := kKR_1.1 15 _ _ rfl; have := kKR_1.1 16 _ _ rfl; have := kKR_1.1 19 _ _ rfl; omega)) (fun v442 e443 => ?_)
        have := kKR_1.a (k := 13) rfl (v7 : Int32).toNatClampNeg
        have := kKB9_1.1
        have h444 : v7.toNatClampNeg = p2 := by have := mz_nat9 (i := v7) (by have := kKR_1.1 15 _ _ rfl; have := kKR_1.1 16 _ _ rfl; have := kKR_1.1 19 _ _ rfl; omega); have := kKR_1.1 15 _ _ rfl; have := kKR_1.1 16 _ _ rfl; have := kKR_1.1 19 _ _ rfl; omega
        have := kKB9_1.byte (p := p2) (v := v442.toInt) (by have := kKR_1.1 15 _ _ rfl; have := kKR_1.1 16 _ _ rfl; have := kKR_1.1 19 _ _ rfl; omega) (by rw [e443, h444])
        have := p_so_d (pb p2)
        refine mv_bipush (v := 32) d_TrustDeskModel_next_20 (by decide) ?_
        have := mz_hi v442
        refine mv_icmp_eqZ (tgt := 39) (a := v442.toInt) (b := 32) d_TrustDeskModel_next_22 (by decide) rfl (by decide) (fun b445 => ?_) (fun b445 => ?_)
        · refine mv_aload_n d_TrustDeskModel_next_39 rfl rfl ?_
          refine mv_dup d_TrustDeskModel_next_40 rfl ?_
          refine tr_getK (k := 15) q6 d_TrustDeskModel_next_41 f_TrustDeskModel_192_13 ?_
          refine mv_iconst (v := 1) d_TrustDeskModel_next_44 (by decide) ?_
          refine mv_iadd d_TrustDeskModel_next_45 ?_
          have b446 : (v7 + 1 : Int32).toInt = (v7.toInt + 1) := mz_add2 rfl (by decide) (by have := kKR_1.1 15 _ _ rfl; have := kKR_1.1 16 _ _ rfl; have := kKR_1.1 19 _ _ rfl; omega) (by have := kKR_1.1 15 _ _ rfl; have := kKR_1.1 16 _ _ rfl; have := kKR_1.1 19 _ _ rfl; omega)
          refine tr_putR (k := 15) I_1 kKR_1 h_q0_1 rfl ⟨_, rfl⟩ (fun _ h => by cases h) rfl (fun lo hi h => by cases h; have := kKR_1.1 15 _ _ rfl; have := kKR_1.1 16 _ _ rfl; have := kKR_1.1 19 _ _ rfl; exact ⟨by show (0 : Int) ≤ (v7 + 1).toInt; omega, by show (v7 + 1).toInt ≤ (400 : Int); omega⟩) (Or.inl (by decide)) d_TrustDeskModel_next_46 p_TrustDeskModel_192_13 rfl rfl (fun M447 I448 q449 K450 R451 A452 V453 => ?_)
          have z454 := (V453 14 (by decide))
          have z455 := (V453 16 (by decide))
          have z456 := (V453 17 (by decide))
          have z457 := (V453 18 (by decide))
          have z458 := (V453 19 (by decide))
          have z459 := (V453 20 (by decide))
          have z460 : rv M447 o0 15 = (v7 + 1).toInt := tm_rv q449
          have B9461 : pB M447 o0 pb pn pa := kKB9_1.same (V453 14 (by decide)) (V453 23 (by decide)) (A452 13 (by decide))
          refine mv_goto (tgt := 0) d_TrustDeskModel_next_49 (by decide) ?_
          exact (ih1 T_1 M447 n_1 I448 h_q0_1 (by have := R451.1 15 _ _ rfl; have := R451.1 16 _ _ rfl; have := R451.1 19 _ _ rfl; first | omega | decide | exact fun h9 => absurd (by decide) h9) (by have := R451.1 15 _ _ rfl; have := R451.1 16 _ _ rfl; have := R451.1 19 _ _ rfl; first | omega | decide | exact fun h9 => absurd (by decide) h9) (by have := R451.1 15 _ _ rfl; have := R451.1 16 _ _ rfl; have := R451.1 19 _ _ rfl; first | omega | decide | exact fun h9 => absurd (by decide) h9) ⟨p2 + 1, by have := R451.1 15 _ _ rfl; have := R451.1 16 _ _ rfl; have := R451.1 19 _ _ rfl; omega, (p_rn_on (by have := R451.1 15 _ _ rfl; have := R451.1 16 _ _ rfl; have := R451.1 19 _ _ rfl; omega) (by omega)).symm.trans h4⟩ R451 B9461 (by have := R451.1 15 _ _ rfl; have := R451.1 16 _ _ rfl; have := R451.1 19 _ _ rfl; omega))
        · refine mv_aload_n d_TrustDeskModel_next_25 rfl rfl ?_
          refine tr_getK (k := 13) q440 d_TrustDeskModel_next_26 f_TrustDeskModel_44_13 ?_
          refine mv_aload_n d_TrustDeskModel_next_29 rfl rfl ?_
          refine tr_getK (k := 15) q6 d_TrustDeskModel_next_30 f_TrustDeskModel_192_13 ?_
          refine tr_baldR (o := o0) (k := 13) I_1 q440 t_a441 (by decide) d_TrustDeskModel_next_33 (vp_in_iff.mpr (by have := kKR_1.1 15 _ _ rfl; have := kKR_1.1 16 _ _ rfl; have := kKR_1.1 19 _ _ rfl; omega)) (fun v462 e463 => ?_)
          have := kKR_1.a (k := 13) rfl (v7 : Int32).toNatClampNeg
          have := kKB9_1.1
          have h464 : v7.toNatClampNeg = p2 := by have := mz_nat9 (i := v7) (by have := kKR_1.1 15 _ _ rfl; have := kKR_1.1 16 _ _ rfl; have := kKR_1.1 19 _ _ rfl; omega); have := kKR_1.1 15 _ _ rfl; have := kKR_1.1 16 _ _ rfl; have := kKR_1.1 19 _ _ rfl; omega
          have := kKB9_1.byte (p := p2) (v := v462.toInt) (by have := kKR_1.1 15 _ _ rfl; have := kKR_1.1 16 _ _ rfl; have := kKR_1.1 19 _ _ rfl; omega) (by rw [e463, h464])
          have := p_so_d (pb p2)
          refine mv_bipush (v := 10) d_TrustDeskModel_next_34 (by decide) ?_
          have := mz_hi v462
          refine mv_icmp_neZ (tgt := 52) (a := v462.toInt) (b := 10) d_TrustDeskModel_next_36 (by decide) rfl (by decide) (fun b465 => ?_) (fun b465 => ?_)
          · refine mv_aload_n d_TrustDeskModel_next_52 rfl rfl ?_
            refine mv_aload_n d_TrustDeskModel_next_53 rfl rfl ?_
            refine tr_getK (k := 15) q6 d_TrustDeskModel_next_54 f_TrustDeskModel_192_13 ?_
            refine tr_putR (k := 16) I_1 kKR_1 h_q0_1 rfl ⟨_, rfl⟩ (fun _ h => by cases h) rfl (fun lo hi h => by cases h; have := kKR_1.1 15 _ _ rfl; have := kKR_1.1 16 _ _ rfl; have := kKR_1.1 19 _ _ rfl; exact ⟨by show (0 : Int) ≤ v7.toInt; omega, by show v7.toInt ≤ (400 : Int); omega⟩) (Or.inl (by decide)) d_TrustDeskModel_next_57 p_TrustDeskModel_195_13 rfl rfl (fun M466 I467 q468 K469 R470 A471 V472 => ?_)
            have z473 := (V472 14 (by decide))
            have z474 := (V472 15 (by decide))
            have z475 := (V472 17 (by decide))
            have z476 := (V472 18 (by decide))
            have z477 := (V472 19 (by decide))
            have z478 := (V472 20 (by decide))
            have z479 : rv M466 o0 16 = v7.toInt := tm_rv q468
            have B9480 : pB M466 o0 pb pn pa := kKB9_1.same (V472 14 (by decide)) (V472 23 (by decide)) (A471 13 (by decide))
            have := kKB9_1.1
            have h481 : p2 = pst := (p_rn_end (fun h9 => by have := kKR_1.1 15 _ _ rfl; have := kKR_1.1 16 _ _ rfl; have := kKR_1.1 19 _ _ rfl; omega)).symm.trans h4
            subst h481
            refine mv_aload_n d_TrustDeskModel_next_60 rfl rfl ?_
            refine tr_getK (k := 15) (K469 _ 13 15 _ rfl q6) d_TrustDeskModel_next_61 f_TrustDeskModel_192_13 ?_
            refine mv_aload_n d_TrustDeskModel_next_64 rfl rfl ?_
            refine tr_getK (k := 14) (K469 _ 13 14 _ rfl q8) d_TrustDeskModel_next_65 f_TrustDeskModel_189_13 ?_
            have := mz_hi v7
            have := mz_hi v9
            refine mv_icmp_ltZ (tgt := 77) (a := v7.toInt) (b := v9.toInt) d_TrustDeskModel_next_68 (by decide) rfl rfl (fun b482 => ?_) (fun b482 => ?_)
            · refine mv_aload_n d_TrustDeskModel_next_77 rfl rfl ?_
              refine tr_getK (k := 13) (K469 _ 13 13 _ rfl q440) d_TrustDeskModel_next_78 f_TrustDeskModel_44_13 ?_
              refine mv_aload_n d_TrustDeskModel_next_81 rfl rfl ?_
              refine tr_getK (k := 15) (K469 _ 13 15 _ rfl q6) d_TrustDeskModel_next_82 f_TrustDeskModel_192_13 ?_
              refine tr_baldR (o := o0) (k := 13) I467 (K469 _ 13 13 _ rfl q440) t_a441 (by decide) d_TrustDeskModel_next_85 (vp_in_iff.mpr (by have := R470.1 15 _ _ rfl; have := R470.1 16 _ _ rfl; have := R470.1 19 _ _ rfl; omega)) (fun v483 e484 => ?_)
              have := R470.a (k := 13) rfl (v7 : Int32).toNatClampNeg
              have := B9480.1
              have h485 : v7.toNatClampNeg = p2 := by have := mz_nat9 (i := v7) (by have := R470.1 15 _ _ rfl; have := R470.1 16 _ _ rfl; have := R470.1 19 _ _ rfl; omega); have := R470.1 15 _ _ rfl; have := R470.1 16 _ _ rfl; have := R470.1 19 _ _ rfl; omega
              have := B9480.byte (p := p2) (v := v483.toInt) (by have := R470.1 15 _ _ rfl; have := R470.1 16 _ _ rfl; have := R470.1 19 _ _ rfl; omega) (by rw [e484, h485])
              have := p_so_d (pb p2)
              refine mv_istore_n (lv' := [(1, .int v483), (0, .ref o0)]) d_TrustDeskModel_next_86 rfl (by decide) rfl ?_
              refine mv_aload_n d_TrustDeskModel_next_87 rfl rfl ?_
              refine mv_dup d_TrustDeskModel_next_88 rfl ?_
              refine tr_getK (k := 15) (K469 _ 13 15 _ rfl q6) d_TrustDeskModel_next_89 f_TrustDeskModel_192_13 ?_
              refine mv_iconst (v := 1) d_TrustDeskModel_next_92 (by decide) ?_
              refine mv_iadd d_TrustDeskModel_next_93 ?_
              have b486 : (v7 + 1 : Int32).toInt = (v7.toInt + 1) := mz_add2 rfl (by decide) (by have := R470.1 15 _ _ rfl; have := R470.1 16 _ _ rfl; have := R470.1 19 _ _ rfl; omega) (by have := R470.1 15 _ _ rfl; have := R470.1 16 _ _ rfl; have := R470.1 19 _ _ rfl; omega)
              refine tr_putR (k := 15) I467 R470 h_q0_1 rfl ⟨_, rfl⟩ (fun _ h => by cases h) rfl (fun lo hi h => by cases h; have := R470.1 15 _ _ rfl; have := R470.1 16 _ _ rfl; have := R470.1 19 _ _ rfl; exact ⟨by show (0 : Int) ≤ (v7 + 1).toInt; omega, by show (v7 + 1).toInt ≤ (400 : Int); omega⟩) (Or.inl (by decide)) d_TrustDeskModel_next_94 p_TrustDeskModel_192_13 rfl rfl (fun M487 I488 q489 K490 R491 A492 V493 => ?_)
              have z494 := (V493 14 (by decide)).trans z473
              have z495 := (V493 16 (by decide)).trans z479
              have z496 := (V493 17 (by decide)).trans z475
              have z497 := (V493 18 (by decide)).trans z476
              have z498 := (V493 19 (by decide)).trans z477
              have z499 := (V493 20 (by decide)).trans z478
              have z500 : rv M487 o0 15 = (v7 + 1).toInt := tm_rv q489
              have B9501 : pB M487 o0 pb pn pa := B9480.same (V493 14 (by decide)) (V493 23 (by decide)) (A492 13 (by decide))
              clear z473 z479 z475 z476 z477 z478
              refine mv_aload_n d_TrustDeskModel_next_97 rfl rfl ?_
              refine mv_iload_n d_TrustDeskModel_next_98 rfl rfl ?_
              refine tr_putR (k := 18) I488 R491 h_q0_1 rfl ⟨_, rfl⟩ (fun _ h => by cases h) rfl (fun lo hi h => by cases h; have := R491.1 15 _ _ rfl; have := R491.1 16 _ _ rfl; have := R491.1 19 _ _ rfl; exact ⟨by show ((-128) : Int) ≤ v483.toInt; omega, by show v483.toInt ≤ (9999 : Int); omega⟩) (Or.inl (by decide)) d_TrustDeskModel_next_99 p_TrustDeskModel_201_13 rfl rfl (fun M502 I503 q504 K505 R506 A507 V508 => ?_)
              have z509 := (V508 14 (by decide)).trans z494
              have z510 := (V508 15 (by decide)).trans z500
              have z511 := (V508 16 (by decide)).trans z495
              have z512 := (V508 17 (by decide)).trans z496
              have z513 := (V508 19 (by decide)).trans z498
              have z514 := (V508 20 (by decide)).trans z499
              have z515 : rv M502 o0 18 = v483.toInt := tm_rv q504
              have B9516 : pB M502 o0 pb pn pa := B9501.same (V508 14 (by decide)) (V508 23 (by decide)) (A507 13 (by decide))
              clear z494 z500 z495 z496 z498 z499
              refine mv_iload_n d_TrustDeskModel_next_102 rfl rfl ?_
              refine mv_callS (kc1 := 0) (ks1 := 0) (kc' := 0) (ks' := 0) (As := [.int v483]) (st9 := [.int v483]) d_TrustDeskModel_next_103 lS_TrustDeskModel_204 (mj_enter (by decide) (Nat.le_of_ble_eq_true rfl) ?_) rfl (Nat.le_of_ble_eq_true rfl) (Nat.le_of_ble_eq_true rfl) (Nat.le_of_ble_eq_true rfl) (hst := rfl) (fun _ _ _ h => h)
              refine mv_iload_n d_TrustDeskModel_isSmall_0 rfl rfl ?_
              refine mv_bipush (v := 97) d_TrustDeskModel_isSmall_1 (by decide) ?_
              have := mz_hi v483
              refine mv_icmp_ltZ (tgt := 16) (a := v483.toInt) (b := 97) d_TrustDeskModel_isSmall_3 (by decide) rfl (by decide) (fun b517 => ?_) (fun b517 => ?_)
              · refine mv_iconst (v := 0) d_TrustDeskModel_isSmall_16 (by decide) ?_
                refine mv_iret d_TrustDeskModel_isSmall_17 rfl (by decide) ?_
                refine mv_if_eq_t (tgt := 144) d_TrustDeskModel_next_106 (by decide) (by decide) ?_
                refine mv_iload_n d_TrustDeskModel_next_144 rfl rfl ?_
                refine mv_callS (kc1 := 0) (ks1 := 0) (kc' := 0) (ks' := 0) (As := [.int v483]) (st9 := [.int v483]) d_TrustDeskModel_next_145 lS_TrustDeskModel_211 (mj_enter (by decide) (Nat.le_of_ble_eq_true rfl) ?_) rfl (Nat.le_of_ble_eq_true rfl) (Nat.le_of_ble_eq_true rfl) (Nat.le_of_ble_eq_true rfl) (hst := rfl) (fun _ _ _ h => h)
                refine mv_iload_n d_TrustDeskModel_isDigit_0 rfl rfl ?_
                refine mv_bipush (v := 48) d_TrustDeskModel_isDigit_1 (by decide) ?_
                have := mz_hi v483
                refine mv_icmp_ltZ (tgt := 16) (a := v483.toInt) (b := 48) d_TrustDeskModel_isDigit_3 (by decide) rfl (by decide) (fun b518 => ?_) (fun b518 => ?_)
                · refine mv_iconst (v := 0) d_TrustDeskModel_isDigit_16 (by decide) ?_
                  refine mv_iret d_TrustDeskModel_isDigit_17 rfl (by decide) ?_
                  refine mv_if_eq_t (tgt := 247) d_TrustDeskModel_next_148 (by decide) (by decide) ?_
                  refine mv_aload_n d_TrustDeskModel_next_247 rfl rfl ?_
                  refine mv_iconst (v := 4) d_TrustDeskModel_next_248 (by decide) ?_
                  refine tr_putR (k := 17) I503 R506 h_q0_1 rfl ⟨_, rfl⟩ (fun _ h => by cases h) rfl (fun lo hi h => by cases h) (Or.inl (by decide)) d_TrustDeskModel_next_249 p_TrustDeskModel_198_13 rfl rfl (fun M519 I520 q521 K522 R523 A524 V525 => ?_)
                  have z526 := (V525 14 (by decide)).trans z509
                  have z527 := (V525 15 (by decide)).trans z510
                  have z528 := (V525 16 (by decide)).trans z511
                  have z529 := (V525 18 (by decide)).trans z515
                  have z530 := (V525 19 (by decide)).trans z513
                  have z531 := (V525 20 (by decide)).trans z514
                  have z532 : rv M519 o0 17 = 4 := tm_rv q521
                  have B9533 : pB M519 o0 pb pn pa := B9516.same (V525 14 (by decide)) (V525 23 (by decide)) (A524 13 (by decide))
                  clear z509 z510 z511 z515 z513 z514
                  exact mv_vret d_TrustDeskModel_next_252 rfl ⟨_, I520, rfl, R523, (rT_of (by omega) (by omega) (by omega)), (by have := R523.1 15 _ _ rfl; have := R523.1 16 _ _ rfl; have := R523.1 19 _ _ rfl; omega), (pO.nx2 yO B9533 (by have := R523.1 15 _ _ rfl; have := R523.1 16 _ _ rfl; have := R523.1 19 _ _ rfl; omega) (by have := R523.1 15 _ _ rfl; have := R523.1 16 _ _ rfl; have := R523.1 19 _ _ rfl; omega) (fun w9 => by have q9 : p_st pb pn ps.2.2 = p2 := (yO.a hA w9).trans hst; exact pT.sign (by rw [q9]; omega) (by rw [q9]; omega) (by rw [q9]; have := R523.1 15 _ _ rfl; have := R523.1 16 _ _ rfl; have := R523.1 19 _ _ rfl; omega) (by rw [q9]; have := R523.1 15 _ _ rfl; have := R523.1 16 _ _ rfl; have := R523.1 19 _ _ rfl; omega) (by have := R523.1 15 _ _ rfl; have := R523.1 16 _ _ rfl; have := R523.1 19 _ _ rfl; omega) (by rw [q9]; omega)))⟩
                · refine mv_iload_n d_TrustDeskModel_isDigit_6 rfl rfl ?_
                  refine mv_bipush (v := 57) d_TrustDeskModel_isDigit_7 (by decide) ?_
                  have := mz_hi v483
                  refine mv_icmp_gtZ (tgt := 16) (a := v483.toInt) (b := 57) d_TrustDeskModel_isDigit_9 (by decide) rfl (by decide) (fun b534 => ?_) (fun b534 => ?_)
                  · refine mv_iconst (v := 0) d_TrustDeskModel_isDigit_16 (by decide) ?_
                    refine mv_iret d_TrustDeskModel_isDigit_17 rfl (by decide) ?_
                    refine mv_if_eq_t (tgt := 247) d_TrustDeskModel_next_148 (by decide) (by decide) ?_
                    refine mv_aload_n d_TrustDeskModel_next_247 rfl rfl ?_
                    refine mv_iconst (v := 4) d_TrustDeskModel_next_248 (by decide) ?_
                    refine tr_putR (k := 17) I503 R506 h_q0_1 rfl ⟨_, rfl⟩ (fun _ h => by cases h) rfl (fun lo hi h => by cases h) (Or.inl (by decide)) d_TrustDeskModel_next_249 p_TrustDeskModel_198_13 rfl rfl (fun M535 I536 q537 K538 R539 A540 V541 => ?_)
                    have z542 := (V541 14 (by decide)).trans z509
                    have z543 := (V541 15 (by decide)).trans z510
                    have z544 := (V541 16 (by decide)).trans z511
                    have z545 := (V541 18 (by decide)).trans z515
                    have z546 := (V541 19 (by decide)).trans z513
                    have z547 := (V541 20 (by decide)).trans z514
                    have z548 : rv M535 o0 17 = 4 := tm_rv q537
                    have B9549 : pB M535 o0 pb pn pa := B9516.same (V541 14 (by decide)) (V541 23 (by decide)) (A540 13 (by decide))
                    clear z509 z510 z511 z515 z513 z514
                    exact mv_vret d_TrustDeskModel_next_252 rfl ⟨_, I536, rfl, R539, (rT_of (by omega) (by omega) (by omega)), (by have := R539.1 15 _ _ rfl; have := R539.1 16 _ _ rfl; have := R539.1 19 _ _ rfl; omega), (pO.nx2 yO B9549 (by have := R539.1 15 _ _ rfl; have := R539.1 16 _ _ rfl; have := R539.1 19 _ _ rfl; omega) (by have := R539.1 15 _ _ rfl; have := R539.1 16 _ _ rfl; have := R539.1 19 _ _ rfl; omega) (fun w9 => by have q9 : p_st pb pn ps.2.2 = p2 := (yO.a hA w9).trans hst; exact pT.sign (by rw [q9]; omega) (by rw [q9]; omega) (by rw [q9]; have := R539.1 15 _ _ rfl; have := R539.1 16 _ _ rfl; have := R539.1 19 _ _ rfl; omega) (by rw [q9]; have := R539.1 15 _ _ rfl; have := R539.1 16 _ _ rfl; have := R539.1 19 _ _ rfl; omega) (by have := R539.1 15 _ _ rfl; have := R539.1 16 _ _ rfl; have := R539.1 19 _ _ rfl; omega) (by rw [q9]; omega)))⟩
                  · refine mv_iconst (v := 1) d_TrustDeskModel_isDigit_12 (by decide) ?_
                    refine mv_goto (tgt := 17) d_TrustDeskModel_isDigit_13 (by decide) ?_
                    refine mv_iret d_TrustDeskModel_isDigit_17 rfl (by decide) ?_
                    refine mv_if_eq_f (tgt := 247) d_TrustDeskModel_next_148 (by decide) (by decide) ?_
                    refine mv_aload_n d_TrustDeskModel_next_151 rfl rfl ?_
                    refine mv_iload_n d_TrustDeskModel_next_152 rfl rfl ?_
                    refine mv_bipush (v := 48) d_TrustDeskModel_next_153 (by decide) ?_
                    refine mv_isub d_TrustDeskModel_next_155 ?_
                    have b550 : (v483 - 48 : Int32).toInt = (v483.toInt - 48) := mz_sub2 rfl (by decide) (by have := R506.1 15 _ _ rfl; have := R506.1 16 _ _ rfl; have := R506.1 19 _ _ rfl; omega) (by have := R506.1 15 _ _ rfl; have := R506.1 16 _ _ rfl; have := R506.1 19 _ _ rfl; omega)
                    refine tr_putR (k := 18) I503 R506 h_q0_1 rfl ⟨_, rfl⟩ (fun _ h => by cases h) rfl (fun lo hi h => by cases h; have := R506.1 15 _ _ rfl; have := R506.1 16 _ _ rfl; have := R506.1 19 _ _ rfl; exact ⟨by show ((-128) : Int) ≤ (v483 - 48).toInt; omega, by show (v483 - 48).toInt ≤ (9999 : Int); omega⟩) (Or.inl (by decide)) d_TrustDeskModel_next_156 p_TrustDeskModel_201_13 rfl rfl (fun M551 I552 q553 K554 R555 A556 V557 => ?_)
                    have z558 := (V557 14 (by decide)).trans z509
                    have z559 := (V557 15 (by decide)).trans z510
                    have z560 := (V557 16 (by decide)).trans z511
                    have z561 := (V557 17 (by decide)).trans z512
                    have z562 := (V557 19 (by decide)).trans z513
                    have z563 := (V557 20 (by decide)).trans z514
                    have z564 : rv M551 o0 18 = (v483 - 48).toInt := tm_rv q553
                    have B9565 : pB M551 o0 pb pn pa := B9516.same (V557 14 (by decide)) (V557 23 (by decide)) (A556 13 (by decide))
                    clear z509 z510 z511 z512 z513 z514
                    have L159_566 : ∀ (k : Nat) (T_566 : tm_H) (M_566 : mj_M) (n_566 : Nat), tm_I tm_FT (tm_in w_TrustDeskModel_next_x) x9 T0 M0 n0 T_566 M_566 n_566 → T_566 o0 = some (0, 13, 0) → rv M0 o0 15 ≤ rv M_566 o0 16 → rv M_566 o0 16 < rv M_566 o0 15 → 0 ≤ rv M_566 o0 18 → (rv M_566 o0 15 - rv M_566 o0 16 ≤ 1 → rv M_566 o0 18 ≤ 9) → (rv M_566 o0 15 - rv M_566 o0 16 ≤ 2 → rv M_566 o0 18 ≤ 99) → (rv M_566 o0 15 - rv M_566 o0 16 ≤ 3 → rv M_566 o0 18 ≤ 999) → rv M_566 o0 19 = rv M0 o0 19 → rv M_566 o0 20 = rv M0 o0 20 → rv M_566 o0 16 = (p2 : Int) → p2 < pn → p_so (pb p2) = 2 → (∃ p : Nat, rv M_566 o0 15 = (p : Int) ∧ p ≤ pn ∧ p_rn pb pn 2 p = p_rn pb pn 2 (p2 + 1) ∧ (p ≤ p2 + 4 → rv M_566 o0 18 = p_nu pb (p - p2) p2 0)) → (rI M_566 o0) → (pB M_566 o0 pb pn pa) → 401 - rv M_566 o0 15 < (k : Int) → mj_V g l kY_TrustDeskModel_next (d + 1) 159 [(1, .int v483), (0, .ref o0)] [] M_566 n_566 0 0 (tm_Q tm_FT (tm_in w_TrustDeskModel_next_x) x9 T0 M0 n0 (fun r _ M => r = none ∧ rI M o0 ∧ (rT M o0) ∧ (rv M0 o0 15 ≤ rv M o0 16) ∧ (pO M o0 pb pn pa ps))) := by
                      intro k566
                      induction k566 with
                      | zero =>
                        intro T_566 M_566 n_566 I_566 h_q0_566 iv0_566 iv1_566 iv2_566 iv3_566 iv4_566 iv5_566 iv6_566 iv7_566 iv8_566 iv9_566 iv10_566 iv11_566 kKR_566 kKB9_566 hk566
                        have := kKR_566.1 15 _ _ rfl
                        have := kKR_566.1 16 _ _ rfl
                        have := kKR_566.1 19 _ _ rfl
                        exfalso; omega
                      | succ k566 ih566 =>
                        intro T_566 M_566 n_566 I_566 h_q0_566 iv0_566 iv1_566 iv2_566 iv3_566 iv4_566 iv5_566 iv6_566 iv7_566 iv8_566 iv9_566 iv10_566 iv11_566 kKR_566 kKB9_566 hk566
                        obtain ⟨p567, h568, h570, h569⟩ := iv11_566
                        obtain ⟨h569, h569v⟩ := h569
                        have := kKB9_566.1
                        refine mv_aload_n d_TrustDeskModel_next_159 rfl rfl ?_
                        refine mv_aload_n d_TrustDeskModel_next_160 rfl rfl ?_
                        obtain ⟨v572, q571⟩ := tm_atI I_566 h_q0_566 (k := 15) rfl
                        refine tr_getK q571 d_TrustDeskModel_next_161 f_TrustDeskModel_192_13 ?_
                        have := kKR_566.f (k := 15) q571 rfl
                        have := tm_rv q571
                        obtain ⟨_, b573, -⟩ := I_566.1 _ _ h_q0_566
                        refine mv_callV (kc1 := 0) (ks1 := 0) (kc' := 0) (ks' := 0) (As := [.int v572]) (st9 := [.int v572, .ref o0]) d_TrustDeskModel_next_164 lV_TrustDeskModel_207 b573 rfl (mj_enter (by decide) (Nat.le_of_ble_eq_true rfl) ?_) rfl (Nat.le_of_ble_eq_true rfl) (Nat.le_of_ble_eq_true rfl) (Nat.le_of_ble_eq_true rfl) (hst := rfl) (fun _ _ _ h => h)
                        refine mv_iload_n d_TrustDeskModel_see_0 rfl rfl ?_
                        refine mv_aload_n d_TrustDeskModel_see_1 rfl rfl ?_
                        obtain ⟨v575, q574⟩ := tm_atI I_566 h_q0_566 (k := 14) rfl
                        refine tr_getK q574 d_TrustDeskModel_see_2 f_TrustDeskModel_189_13 ?_
                        have := kKR_566.f (k := 14) q574 rfl
                        have := tm_rv q574
                        have := mz_hi v572
                        have := mz_hi v575
                        refine mv_icmp_geZ (tgt := 17) (a := v572.toInt) (b := v575.toInt) d_TrustDeskModel_see_5 (by decide) rfl rfl (fun b576 => ?_) (fun b576 => ?_)
                        · refine mv_iconst (v := 0) d_TrustDeskModel_see_17 (by decide) ?_
                          refine mv_iret d_TrustDeskModel_see_18 rfl (by first | rfl | decide) ?_
                          refine mv_callS (kc1 := 0) (ks1 := 0) (kc' := 0) (ks' := 0) (As := [.int 0]) (st9 := [.int 0]) d_TrustDeskModel_next_167 lS_TrustDeskModel_211 (mj_enter (by decide) (Nat.le_of_ble_eq_true rfl) ?_) rfl (Nat.le_of_ble_eq_true rfl) (Nat.le_of_ble_eq_true rfl) (Nat.le_of_ble_eq_true rfl) (hst := rfl) (fun _ _ _ h => h)
                          refine mv_iload_n d_TrustDeskModel_isDigit_0 rfl rfl ?_
                          refine mv_bipush (v := 48) d_TrustDeskModel_isDigit_1 (by decide) ?_
                          refine mv_icmp_lt_t (tgt := 16) d_TrustDeskModel_isDigit_3 (by decide) (by decide) ?_
                          refine mv_iconst (v := 0) d_TrustDeskModel_isDigit_16 (by decide) ?_
                          refine mv_iret d_TrustDeskModel_isDigit_17 rfl (by decide) ?_
                          refine mv_if_eq_t (tgt := 222) d_TrustDeskModel_next_170 (by decide) (by decide) ?_
                          refine mv_aload_n d_TrustDeskModel_next_222 rfl rfl ?_
                          refine mv_aload_n d_TrustDeskModel_next_223 rfl rfl ?_
                          refine tr_getK (k := 15) q571 d_TrustDeskModel_next_224 f_TrustDeskModel_192_13 ?_
                          refine mv_aload_n d_TrustDeskModel_next_227 rfl rfl ?_
                          obtain ⟨v578, q577⟩ := tm_atI I_566 h_q0_566 (k := 16) rfl
                          refine tr_getK q577 d_TrustDeskModel_next_228 f_TrustDeskModel_195_13 ?_
                          have := kKR_566.f (k := 16) q577 rfl
                          have := tm_rv q577
                          refine mv_isub d_TrustDeskModel_next_231 ?_
                          refine mv_iconst (v := 4) d_TrustDeskModel_next_232 (by decide) ?_
                          have b579 : (v572 - v578 : Int32).toInt = (v572.toInt - v578.toInt) := mz_sub2 rfl rfl (by have := kKR_566.1 15 _ _ rfl; have := kKR_566.1 16 _ _ rfl; have := kKR_566.1 19 _ _ rfl; omega) (by have := kKR_566.1 15 _ _ rfl; have := kKR_566.1 16 _ _ rfl; have := kKR_566.1 19 _ _ rfl; omega)
                          have := mz_hi (v572 - v578)
                          refine mv_icmp_leZ (tgt := 240) (a := (v572 - v578).toInt) (b := 4) d_TrustDeskModel_next_233 (by decide) rfl (by decide) (fun b580 => ?_) (fun b580 => ?_)
                          · refine mv_iconst (v := 2) d_TrustDeskModel_next_240 (by decide) ?_
                            refine tr_putR (k := 17) I_566 kKR_566 h_q0_566 rfl ⟨_, rfl⟩ (fun _ h => by cases h) rfl (fun lo hi h => by cases h) (Or.inl (by decide)) d_TrustDeskModel_next_241 p_TrustDeskModel_198_13 rfl rfl (fun M581 I582 q583 K584 R585 A586 V587 => ?_)
                            have z588 := (V587 14 (by decide))
                            have z589 := (V587 15 (by decide))
                            have z590 := (V587 16 (by decide))
                            have z591 := (V587 18 (by decide))
                            have z592 := (V587 19 (by decide))
                            have z593 := (V587 20 (by decide))
                            have z594 : rv M581 o0 17 = 2 := tm_rv q583
                            have B9595 : pB M581 o0 pb pn pa := kKB9_566.same (V587 14 (by decide)) (V587 23 (by decide)) (A586 13 (by decide))
                            refine mv_goto (tgt := 252) d_TrustDeskModel_next_244 (by decide) ?_
                            exact mv_vret d_TrustDeskModel_next_252 rfl ⟨_, I582, rfl, R585, (rT_of (by omega) (by omega) (by omega)), (by have := R585.1 15 _ _ rfl; have := R585.1 16 _ _ rfl; have := R585.1 19 _ _ rfl; omega), (pO.nx2 yO B9595 (by have := R585.1 15 _ _ rfl; have := R585.1 16 _ _ rfl; have := R585.1 19 _ _ rfl; omega) (by have := R585.1 15 _ _ rfl; have := R585.1 16 _ _ rfl; have := R585.1 19 _ _ rfl; omega) (fun w9 => by have q9 : p_st pb pn ps.2.2 = p2 := (yO.a hA w9).trans hst; have z9 : p_rn pb pn 2 (p2 + 1) = p567 := h569.symm.trans (p_rn_end (fun h9 => by omega)); exact pT.num (by rw [q9]; omega) (by rw [q9]; assumption) (by rw [q9]; have := R585.1 15 _ _ rfl; have := R585.1 16 _ _ rfl; have := R585.1 19 _ _ rfl; omega) (by rw [q9, z9]; have := R585.1 15 _ _ rfl; have := R585.1 16 _ _ rfl; have := R585.1 19 _ _ rfl; omega) (by have := R585.1 15 _ _ rfl; have := R585.1 16 _ _ rfl; have := R585.1 19 _ _ rfl; omega) (fun z7 => by rw [q9, z9]; have z8 := h569v (by omega); rw [← z8]; exact ⟨by omega, by omega⟩)))⟩
                          · refine mv_iconst (v := 1) d_TrustDeskModel_next_236 (by decide) ?_
                            refine mv_goto (tgt := 241) d_TrustDeskModel_next_237 (by decide) ?_
                            refine tr_putR (k := 17) I_566 kKR_566 h_q0_566 rfl ⟨_, rfl⟩ (fun _ h => by cases h) rfl (fun lo hi h => by cases h) (Or.inl (by decide)) d_TrustDeskModel_next_241 p_TrustDeskModel_198_13 rfl rfl (fun M596 I597 q598 K599 R600 A601 V602 => ?_)
                            have z603 := (V602 14 (by decide))
                            have z604 := (V602 15 (by decide))
                            have z605 := (V602 16 (by decide))
                            have z606 := (V602 18 (by decide))
                            have z607 := (V602 19 (by decide))
                            have z608 := (V602 20 (by decide))
                            have z609 : rv M596 o0 17 = 1 := tm_rv q598
                            have B9610 : pB M596 o0 pb pn pa := kKB9_566.same (V602 14 (by decide)) (V602 23 (by decide)) (A601 13 (by decide))
                            refine mv_goto (tgt := 252) d_TrustDeskModel_next_244 (by decide) ?_
                            exact mv_vret d_TrustDeskModel_next_252 rfl ⟨_, I597, rfl, R600, (rT_of (by omega) (by omega) (by omega)), (by have := R600.1 15 _ _ rfl; have := R600.1 16 _ _ rfl; have := R600.1 19 _ _ rfl; omega), (pO.nx2 yO B9610 (by have := R600.1 15 _ _ rfl; have := R600.1 16 _ _ rfl; have := R600.1 19 _ _ rfl; omega) (by have := R600.1 15 _ _ rfl; have := R600.1 16 _ _ rfl; have := R600.1 19 _ _ rfl; omega) (fun w9 => by have q9 : p_st pb pn ps.2.2 = p2 := (yO.a hA w9).trans hst; have z9 : p_rn pb pn 2 (p2 + 1) = p567 := h569.symm.trans (p_rn_end (fun h9 => by omega)); exact pT.num (by rw [q9]; omega) (by rw [q9]; assumption) (by rw [q9]; have := R600.1 15 _ _ rfl; have := R600.1 16 _ _ rfl; have := R600.1 19 _ _ rfl; omega) (by rw [q9, z9]; have := R600.1 15 _ _ rfl; have := R600.1 16 _ _ rfl; have := R600.1 19 _ _ rfl; omega) (by have := R600.1 15 _ _ rfl; have := R600.1 16 _ _ rfl; have := R600.1 19 _ _ rfl; omega) (fun z7 => by rw [q9, z9]; have z8 := h569v (by omega); rw [← z8]; exact ⟨by omega, by omega⟩)))⟩
                        · refine mv_aload_n d_TrustDeskModel_see_8 rfl rfl ?_
                          obtain ⟨a612, q611, t_a612⟩ := tm_atR I_566 h_q0_566 (k := 13) rfl
                          refine tr_getK q611 d_TrustDeskModel_see_9 f_TrustDeskModel_44_13 ?_
                          refine mv_iload_n d_TrustDeskModel_see_12 rfl rfl ?_
                          refine tr_baldR (o := o0) (k := 13) I_566 q611 t_a612 (by decide) d_TrustDeskModel_see_13 (vp_in_iff.mpr (by have := kKR_566.1 15 _ _ rfl; have := kKR_566.1 16 _ _ rfl; have := kKR_566.1 19 _ _ rfl; omega)) (fun v613 e614 => ?_)
                          have := kKR_566.a (k := 13) rfl (v572 : Int32).toNatClampNeg
                          have := kKB9_566.1
                          have h615 : v572.toNatClampNeg = p567 := by have := mz_nat9 (i := v572) (by have := kKR_566.1 15 _ _ rfl; have := kKR_566.1 16 _ _ rfl; have := kKR_566.1 19 _ _ rfl; omega); have := kKR_566.1 15 _ _ rfl; have := kKR_566.1 16 _ _ rfl; have := kKR_566.1 19 _ _ rfl; omega
                          have := kKB9_566.byte (p := p567) (v := v613.toInt) (by have := kKR_566.1 15 _ _ rfl; have := kKR_566.1 16 _ _ rfl; have := kKR_566.1 19 _ _ rfl; omega) (by rw [e614, h615])
                          have := p_so_d (pb p567)
                          refine mv_goto (tgt := 18) d_TrustDeskModel_see_14 (by decide) ?_
                          refine mv_iret d_TrustDeskModel_see_18 rfl (by first | rfl | decide) ?_
                          refine mv_callS (kc1 := 0) (ks1 := 0) (kc' := 0) (ks' := 0) (As := [.int v613]) (st9 := [.int v613]) d_TrustDeskModel_next_167 lS_TrustDeskModel_211 (mj_enter (by decide) (Nat.le_of_ble_eq_true rfl) ?_) rfl (Nat.le_of_ble_eq_true rfl) (Nat.le_of_ble_eq_true rfl) (Nat.le_of_ble_eq_true rfl) (hst := rfl) (fun _ _ _ h => h)
                          refine mv_iload_n d_TrustDeskModel_isDigit_0 rfl rfl ?_
                          refine mv_bipush (v := 48) d_TrustDeskModel_isDigit_1 (by decide) ?_
                          have := mz_hi v613
                          refine mv_icmp_ltZ (tgt := 16) (a := v613.toInt) (b := 48) d_TrustDeskModel_isDigit_3 (by decide) rfl (by decide) (fun b616 => ?_) (fun b616 => ?_)
                          · refine mv_iconst (v := 0) d_TrustDeskModel_isDigit_16 (by decide) ?_
                            refine mv_iret d_TrustDeskModel_isDigit_17 rfl (by decide) ?_
                            refine mv_if_eq_t (tgt := 222) d_TrustDeskModel_next_170 (by decide) (by decide) ?_
                            refine mv_aload_n d_TrustDeskModel_next_222 rfl rfl ?_
                            refine mv_aload_n d_TrustDeskModel_next_223 rfl rfl ?_
                            refine tr_getK (k := 15) q571 d_TrustDeskModel_next_224 f_TrustDeskModel_192_13 ?_
                            refine mv_aload_n d_TrustDeskModel_next_227 rfl rfl ?_
                            obtain ⟨v618, q617⟩ := tm_atI I_566 h_q0_566 (k := 16) rfl
                            refine tr_getK q617 d_TrustDeskModel_next_228 f_TrustDeskModel_195_13 ?_
                            have := kKR_566.f (k := 16) q617 rfl
                            have := tm_rv q617
                            refine mv_isub d_TrustDeskModel_next_231 ?_
                            refine mv_iconst (v := 4) d_TrustDeskModel_next_232 (by decide) ?_
                            have b619 : (v572 - v618 : Int32).toInt = (v572.toInt - v618.toInt) := mz_sub2 rfl rfl (by have := kKR_566.1 15 _ _ rfl; have := kKR_566.1 16 _ _ rfl; have := kKR_566.1 19 _ _ rfl; omega) (by have := kKR_566.1 15 _ _ rfl; have := kKR_566.1 16 _ _ rfl; have := kKR_566.1 19 _ _ rfl; omega)
                            have := mz_hi (v572 - v618)
                            refine mv_icmp_leZ (tgt := 240) (a := (v572 - v618).toInt) (b := 4) d_TrustDeskModel_next_233 (by decide) rfl (by decide) (fun b620 => ?_) (fun b620 => ?_)
                            · refine mv_iconst (v := 2) d_TrustDeskModel_next_240 (by decide) ?_
                              refine tr_putR (k := 17) I_566 kKR_566 h_q0_566 rfl ⟨_, rfl⟩ (fun _ h => by cases h) rfl (fun lo hi h => by cases h) (Or.inl (by decide)) d_TrustDeskModel_next_241 p_TrustDeskModel_198_13 rfl rfl (fun M621 I622 q623 K624 R625 A626 V627 => ?_)
                              have z628 := (V627 14 (by decide))
                              have z629 := (V627 15 (by decide))
                              have z630 := (V627 16 (by decide))
                              have z631 := (V627 18 (by decide))
                              have z632 := (V627 19 (by decide))
                              have z633 := (V627 20 (by decide))
                              have z634 : rv M621 o0 17 = 2 := tm_rv q623
                              have B9635 : pB M621 o0 pb pn pa := kKB9_566.same (V627 14 (by decide)) (V627 23 (by decide)) (A626 13 (by decide))
                              refine mv_goto (tgt := 252) d_TrustDeskModel_next_244 (by decide) ?_
                              exact mv_vret d_TrustDeskModel_next_252 rfl ⟨_, I622, rfl, R625, (rT_of (by omega) (by omega) (by omega)), (by have := R625.1 15 _ _ rfl; have := R625.1 16 _ _ rfl; have := R625.1 19 _ _ rfl; omega), (pO.nx2 yO B9635 (by have := R625.1 15 _ _ rfl; have := R625.1 16 _ _ rfl; have := R625.1 19 _ _ rfl; omega) (by have := R625.1 15 _ _ rfl; have := R625.1 16 _ _ rfl; have := R625.1 19 _ _ rfl; omega) (fun w9 => by have q9 : p_st pb pn ps.2.2 = p2 := (yO.a hA w9).trans hst; have z9 : p_rn pb pn 2 (p2 + 1) = p567 := h569.symm.trans (p_rn_end (fun h9 => by omega)); exact pT.num (by rw [q9]; omega) (by rw [q9]; assumption) (by rw [q9]; have := R625.1 15 _ _ rfl; have := R625.1 16 _ _ rfl; have := R625.1 19 _ _ rfl; omega) (by rw [q9, z9]; have := R625.1 15 _ _ rfl; have := R625.1 16 _ _ rfl; have := R625.1 19 _ _ rfl; omega) (by have := R625.1 15 _ _ rfl; have := R625.1 16 _ _ rfl; have := R625.1 19 _ _ rfl; omega) (fun z7 => by rw [q9, z9]; have z8 := h569v (by omega); rw [← z8]; exact ⟨by omega, by omega⟩)))⟩
                            · refine mv_iconst (v := 1) d_TrustDeskModel_next_236 (by decide) ?_
                              refine mv_goto (tgt := 241) d_TrustDeskModel_next_237 (by decide) ?_
                              refine tr_putR (k := 17) I_566 kKR_566 h_q0_566 rfl ⟨_, rfl⟩ (fun _ h => by cases h) rfl (fun lo hi h => by cases h) (Or.inl (by decide)) d_TrustDeskModel_next_241 p_TrustDeskModel_198_13 rfl rfl (fun M636 I637 q638 K639 R640 A641 V642 => ?_)
                              have z643 := (V642 14 (by decide))
                              have z644 := (V642 15 (by decide))
                              have z645 := (V642 16 (by decide))
                              have z646 := (V642 18 (by decide))
                              have z647 := (V642 19 (by decide))
                              have z648 := (V642 20 (by decide))
                              have z649 : rv M636 o0 17 = 1 := tm_rv q638
                              have B9650 : pB M636 o0 pb pn pa := kKB9_566.same (V642 14 (by decide)) (V642 23 (by decide)) (A641 13 (by decide))
                              refine mv_goto (tgt := 252) d_TrustDeskModel_next_244 (by decide) ?_
                              exact mv_vret d_TrustDeskModel_next_252 rfl ⟨_, I637, rfl, R640, (rT_of (by omega) (by omega) (by omega)), (by have := R640.1 15 _ _ rfl; have := R640.1 16 _ _ rfl; have := R640.1 19 _ _ rfl; omega), (pO.nx2 yO B9650 (by have := R640.1 15 _ _ rfl; have := R640.1 16 _ _ rfl; have := R640.1 19 _ _ rfl; omega) (by have := R640.1 15 _ _ rfl; have := R640.1 16 _ _ rfl; have := R640.1 19 _ _ rfl; omega) (fun w9 => by have q9 : p_st pb pn ps.2.2 = p2 := (yO.a hA w9).trans hst; have z9 : p_rn pb pn 2 (p2 + 1) = p567 := h569.symm.trans (p_rn_end (fun h9 => by omega)); exact pT.num (by rw [q9]; omega) (by rw [q9]; assumption) (by rw [q9]; have := R640.1 15 _ _ rfl; have := R640.1 16 _ _ rfl; have := R640.1 19 _ _ rfl; omega) (by rw [q9, z9]; have := R640.1 15 _ _ rfl; have := R640.1 16 _ _ rfl; have := R640.1 19 _ _ rfl; omega) (by have := R640.1 15 _ _ rfl; have := R640.1 16 _ _ rfl; have := R640.1 19 _ _ rfl; omega) (fun z7 => by rw [q9, z9]; have z8 := h569v (by omega); rw [← z8]; exact ⟨by omega, by omega⟩)))⟩
                          · refine mv_iload_n d_TrustDeskModel_isDigit_6 rfl rfl ?_
                            refine mv_bipush (v := 57) d_TrustDeskModel_isDigit_7 (by decide) ?_
                            have := mz_hi v613
                            refine mv_icmp_gtZ (tgt := 16) (a := v613.toInt) (b := 57) d_TrustDeskModel_isDigit_9 (by decide) rfl (by decide) (fun b651 => ?_) (fun b651 => ?_)
                            · refine mv_iconst (v := 0) d_TrustDeskModel_isDigit_16 (by decide) ?_
                              refine mv_iret d_TrustDeskModel_isDigit_17 rfl (by decide) ?_
                              refine mv_if_eq_t (tgt := 222) d_TrustDeskModel_next_170 (by decide) (by decide) ?_
                              refine mv_aload_n d_TrustDeskModel_next_222 rfl rfl ?_
                              refine mv_aload_n d_TrustDeskModel_next_223 rfl rfl ?_
                              refine tr_getK (k := 15) q571 d_TrustDeskModel_next_224 f_TrustDeskModel_192_13 ?_
                              refine mv_aload_n d_TrustDeskModel_next_227 rfl rfl ?_
                              obtain ⟨v653, q652⟩ := tm_atI I_566 h_q0_566 (k := 16) rfl
                              refine tr_getK q652 d_TrustDeskModel_next_228 f_TrustDeskModel_195_13 ?_
                              have := kKR_566.f (k := 16) q652 rfl
                              have := tm_rv q652
                              refine mv_isub d_TrustDeskModel_next_231 ?_
                              refine mv_iconst (v := 4) d_TrustDeskModel_next_232 (by decide) ?_
                              have b654 : (v572 - v653 : Int32).toInt = (v572.toInt - v653.toInt) := mz_sub2 rfl rfl (by have := kKR_566.1 15 _ _ rfl; have := kKR_566.1 16 _ _ rfl; have := kKR_566.1 19 _ _ rfl; omega) (by have := kKR_566.1 15 _ _ rfl; have := kKR_566.1 16 _ _ rfl; have := kKR_566.1 19 _ _ rfl; omega)
                              have := mz_hi (v572 - v653)
                              refine mv_icmp_leZ (tgt := 240) (a := (v572 - v653).toInt) (b := 4) d_TrustDeskModel_next_233 (by decide) rfl (by decide) (fun b655 => ?_) (fun b655 => ?_)
                              · refine mv_iconst (v := 2) d_TrustDeskModel_next_240 (by decide) ?_
                                refine tr_putR (k := 17) I_566 kKR_566 h_q0_566 rfl ⟨_, rfl⟩ (fun _ h => by cases h) rfl (fun lo hi h => by cases h) (Or.inl (by decide)) d_TrustDeskModel_next_241 p_TrustDeskModel_198_13 rfl rfl (fun M656 I657 q658 K659 R660 A661 V662 => ?_)
                                have z663 := (V662 14 (by decide))
                                have z664 := (V662 15 (by decide))
                                have z665 := (V662 16 (by decide))
                                have z666 := (V662 18 (by decide))
                                have z667 := (V662 19 (by decide))
                                have z668 := (V662 20 (by decide))
                                have z669 : rv M656 o0 17 = 2 := tm_rv q658
                                have B9670 : pB M656 o0 pb pn pa := kKB9_566.same (V662 14 (by decide)) (V662 23 (by decide)) (A661 13 (by decide))
                                refine mv_goto (tgt := 252) d_TrustDeskModel_next_244 (by decide) ?_
                                exact mv_vret d_TrustDeskModel_next_252 rfl ⟨_, I657, rfl, R660, (rT_of (by omega) (by omega) (by omega)), (by have := R660.1 15 _ _ rfl; have := R660.1 16 _ _ rfl; have := R660.1 19 _ _ rfl; omega), (pO.nx2 yO B9670 (by have := R660.1 15 _ _ rfl; have := R660.1 16 _ _ rfl; have := R660.1 19 _ _ rfl; omega) (by have := R660.1 15 _ _ rfl; have := R660.1 16 _ _ rfl; have := R660.1 19 _ _ rfl; omega) (fun w9 => by have q9 : p_st pb pn ps.2.2 = p2 := (yO.a hA w9).trans hst; have z9 : p_rn pb pn 2 (p2 + 1) = p567 := h569.symm.trans (p_rn_end (fun h9 => by omega)); exact pT.num (by rw [q9]; omega) (by rw [q9]; assumption) (by rw [q9]; have := R660.1 15 _ _ rfl; have := R660.1 16 _ _ rfl; have := R660.1 19 _ _ rfl; omega) (by rw [q9, z9]; have := R660.1 15 _ _ rfl; have := R660.1 16 _ _ rfl; have := R660.1 19 _ _ rfl; omega) (by have := R660.1 15 _ _ rfl; have := R660.1 16 _ _ rfl; have := R660.1 19 _ _ rfl; omega) (fun z7 => by rw [q9, z9]; have z8 := h569v (by omega); rw [← z8]; exact ⟨by omega, by omega⟩)))⟩
                              · refine mv_iconst (v := 1) d_TrustDeskModel_next_236 (by decide) ?_
                                refine mv_goto (tgt := 241) d_TrustDeskModel_next_237 (by decide) ?_
                                refine tr_putR (k := 17) I_566 kKR_566 h_q0_566 rfl ⟨_, rfl⟩ (fun _ h => by cases h) rfl (fun lo hi h => by cases h) (Or.inl (by decide)) d_TrustDeskModel_next_241 p_TrustDeskModel_198_13 rfl rfl (fun M671 I672 q673 K674 R675 A676 V677 => ?_)
                                have z678 := (V677 14 (by decide))
                                have z679 := (V677 15 (by decide))
                                have z680 := (V677 16 (by decide))
                                have z681 := (V677 18 (by decide))
                                have z682 := (V677 19 (by decide))
                                have z683 := (V677 20 (by decide))
                                have z684 : rv M671 o0 17 = 1 := tm_rv q673
                                have B9685 : pB M671 o0 pb pn pa := kKB9_566.same (V677 14 (by decide)) (V677 23 (by decide)) (A676 13 (by decide))
                                refine mv_goto (tgt := 252) d_TrustDeskModel_next_244 (by decide) ?_
                                exact mv_vret d_TrustDeskModel_next_252 rfl ⟨_, I672, rfl, R675, (rT_of (by omega) (by omega) (by omega)), (by have := R675.1 15 _ _ rfl; have := R675.1 16 _ _ rfl; have := R675.1 19 _ _ rfl; omega), (pO.nx2 yO B9685 (by have := R675.1 15 _ _ rfl; have := R675.1 16 _ _ rfl; have := R675.1 19 _ _ rfl; omega) (by have := R675.1 15 _ _ rfl; have := R675.1 16 _ _ rfl; have := R675.1 19 _ _ rfl; omega) (fun w9 => by have q9 : p_st pb pn ps.2.2 = p2 := (yO.a hA w9).trans hst; have z9 : p_rn pb pn 2 (p2 + 1) = p567 := h569.symm.trans (p_rn_end (fun h9 => by omega)); exact pT.num (by rw [q9]; omega) (by rw [q9]; assumption) (by rw [q9]; have := R675.1 15 _ _ rfl; have := R675.1 16 _ _ rfl; have := R675.1 19 _ _ rfl; omega) (by rw [q9, z9]; have := R675.1 15 _ _ rfl; have := R675.1 16 _ _ rfl; have := R675.1 19 _ _ rfl; omega) (by have := R675.1 15 _ _ rfl; have := R675.1 16 _ _ rfl; have := R675.1 19 _ _ rfl; omega) (fun z7 => by rw [q9, z9]; have z8 := h569v (by omega); rw [← z8]; exact ⟨by omega, by omega⟩)))⟩
                            · refine mv_iconst (v := 1) d_TrustDeskModel_isDigit_12 (by decide) ?_
                              refine mv_goto (tgt := 17) d_TrustDeskModel_isDigit_13 (by decide) ?_
                              refine mv_iret d_TrustDeskModel_isDigit_17 rfl (by decide) ?_
                              refine mv_if_eq_f (tgt := 222) d_TrustDeskModel_next_170 (by decide) (by decide) ?_
                              refine mv_aload_n d_TrustDeskModel_next_173 rfl rfl ?_
                              refine tr_getK (k := 15) q571 d_TrustDeskModel_next_174 f_TrustDeskModel_192_13 ?_
                              refine mv_aload_n d_TrustDeskModel_next_177 rfl rfl ?_
                              obtain ⟨v687, q686⟩ := tm_atI I_566 h_q0_566 (k := 16) rfl
                              refine tr_getK q686 d_TrustDeskModel_next_178 f_TrustDeskModel_195_13 ?_
                              have := kKR_566.f (k := 16) q686 rfl
                              have := tm_rv q686
                              refine mv_isub d_TrustDeskModel_next_181 ?_
                              refine mv_iconst (v := 4) d_TrustDeskModel_next_182 (by decide) ?_
                              have b688 : (v572 - v687 : Int32).toInt = (v572.toInt - v687.toInt) := mz_sub2 rfl rfl (by have := kKR_566.1 15 _ _ rfl; have := kKR_566.1 16 _ _ rfl; have := kKR_566.1 19 _ _ rfl; omega) (by have := kKR_566.1 15 _ _ rfl; have := kKR_566.1 16 _ _ rfl; have := kKR_566.1 19 _ _ rfl; omega)
                              have := mz_hi (v572 - v687)
                              refine mv_icmp_geZ (tgt := 209) (a := (v572 - v687).toInt) (b := 4) d_TrustDeskModel_next_183 (by decide) rfl (by decide) (fun b689 => ?_) (fun b689 => ?_)
                              · refine mv_aload_n d_TrustDeskModel_next_209 rfl rfl ?_
                                refine mv_dup d_TrustDeskModel_next_210 rfl ?_
                                refine tr_getK (k := 15) q571 d_TrustDeskModel_next_211 f_TrustDeskModel_192_13 ?_
                                refine mv_iconst (v := 1) d_TrustDeskModel_next_214 (by decide) ?_
                                refine mv_iadd d_TrustDeskModel_next_215 ?_
                                have b690 : (v572 + 1 : Int32).toInt = (v572.toInt + 1) := mz_add2 rfl (by decide) (by have := kKR_566.1 15 _ _ rfl; have := kKR_566.1 16 _ _ rfl; have := kKR_566.1 19 _ _ rfl; omega) (by have := kKR_566.1 15 _ _ rfl; have := kKR_566.1 16 _ _ rfl; have := kKR_566.1 19 _ _ rfl; omega)
                                refine tr_putR (k := 15) I_566 kKR_566 h_q0_566 rfl ⟨_, rfl⟩ (fun _ h => by cases h) rfl (fun lo hi h => by cases h; have := kKR_566.1 15 _ _ rfl; have := kKR_566.1 16 _ _ rfl; have := kKR_566.1 19 _ _ rfl; exact ⟨by show (0 : Int) ≤ (v572 + 1).toInt; omega, by show (v572 + 1).toInt ≤ (400 : Int); omega⟩) (Or.inl (by decide)) d_TrustDeskModel_next_216 p_TrustDeskModel_192_13 rfl rfl (fun M691 I692 q693 K694 R695 A696 V697 => ?_)
                                have z698 := (V697 14 (by decide))
                                have z699 := (V697 16 (by decide))
                                have z700 := (V697 17 (by decide))
                                have z701 := (V697 18 (by decide))
                                have z702 := (V697 19 (by decide))
                                have z703 := (V697 20 (by decide))
                                have z704 : rv M691 o0 15 = (v572 + 1).toInt := tm_rv q693
                                have B9705 : pB M691 o0 pb pn pa := kKB9_566.same (V697 14 (by decide)) (V697 23 (by decide)) (A696 13 (by decide))
                                refine mv_goto (tgt := 159) d_TrustDeskModel_next_219 (by decide) ?_
                                exact (ih566 T_566 M691 n_566 I692 h_q0_566 (by have := R695.1 15 _ _ rfl; have := R695.1 16 _ _ rfl; have := R695.1 19 _ _ rfl; first | omega | decide | exact fun h9 => absurd (by decide) h9) (by have := R695.1 15 _ _ rfl; have := R695.1 16 _ _ rfl; have := R695.1 19 _ _ rfl; first | omega | decide | exact fun h9 => absurd (by decide) h9) (by have := R695.1 15 _ _ rfl; have := R695.1 16 _ _ rfl; have := R695.1 19 _ _ rfl; first | omega | decide | exact fun h9 => absurd (by decide) h9) (by have := R695.1 15 _ _ rfl; have := R695.1 16 _ _ rfl; have := R695.1 19 _ _ rfl; first | omega | decide | exact fun h9 => absurd (by decide) h9) (by have := R695.1 15 _ _ rfl; have := R695.1 16 _ _ rfl; have := R695.1 19 _ _ rfl; first | omega | decide | exact fun h9 => absurd (by decide) h9) (by have := R695.1 15 _ _ rfl; have := R695.1 16 _ _ rfl; have := R695.1 19 _ _ rfl; first | omega | decide | exact fun h9 => absurd (by decide) h9) (by have := R695.1 15 _ _ rfl; have := R695.1 16 _ _ rfl; have := R695.1 19 _ _ rfl; first | omega | decide | exact fun h9 => absurd (by decide) h9) (by have := R695.1 15 _ _ rfl; have := R695.1 16 _ _ rfl; have := R695.1 19 _ _ rfl; first | omega | decide | exact fun h9 => absurd (by decide) h9) (by have := R695.1 15 _ _ rfl; have := R695.1 16 _ _ rfl; have := R695.1 19 _ _ rfl; first | omega | decide | exact fun h9 => absurd (by decide) h9) (by have := R695.1 15 _ _ rfl; have := R695.1 16 _ _ rfl; have := R695.1 19 _ _ rfl; first | omega | decide | exact fun h9 => absurd (by decide) h9) (by have := R695.1 15 _ _ rfl; have := R695.1 16 _ _ rfl; have := R695.1 19 _ _ rfl; first | omega | decide | exact fun h9 => absurd (by decide) h9) ⟨p567 + 1, by have := R695.1 15 _ _ rfl; have := R695.1 16 _ _ rfl; have := R695.1 19 _ _ rfl; omega, by have := R695.1 15 _ _ rfl; have := R695.1 16 _ _ rfl; have := R695.1 19 _ _ rfl; omega, (p_rn_on (by have := R695.1 15 _ _ rfl; have := R695.1 16 _ _ rfl; have := R695.1 19 _ _ rfl; omega) (by omega)).symm.trans h569, fun z9 => by have z8 := h569v (by omega); rw [show p567 + 1 - p2 = (p567 - p2) + 1 from by omega, p_nu_out, ← z8, show p2 + (p567 - p2) = p567 from by omega]; have := R695.1 15 _ _ rfl; have := R695.1 16 _ _ rfl; have := R695.1 19 _ _ rfl; omega⟩ R695 B9705 (by have := R695.1 15 _ _ rfl; have := R695.1 16 _ _ rfl; have := R695.1 19 _ _ rfl; omega))
                              · refine mv_aload_n d_TrustDeskModel_next_186 rfl rfl ?_
                                refine mv_bipush (v := 10) d_TrustDeskModel_next_187 (by decide) ?_
                                refine mv_aload_n d_TrustDeskModel_next_189 rfl rfl ?_
                                obtain ⟨v707, q706⟩ := tm_atI I_566 h_q0_566 (k := 18) rfl
                                refine tr_getK q706 d_TrustDeskModel_next_190 f_TrustDeskModel_201_13 ?_
                                have := kKR_566.f (k := 18) q706 rfl
                                have := tm_rv q706
                                refine mv_imul d_TrustDeskModel_next_193 ?_
                                refine mv_aload_n d_TrustDeskModel_next_194 rfl rfl ?_
                                refine mv_aload_n d_TrustDeskModel_next_195 rfl rfl ?_
                                refine tr_getK (k := 15) q571 d_TrustDeskModel_next_196 f_TrustDeskModel_192_13 ?_
                                obtain ⟨_, b708, -⟩ := I_566.1 _ _ h_q0_566
                                refine mv_callV (kc1 := 0) (ks1 := 0) (kc' := 0) (ks' := 0) (As := [.int v572]) (st9 := [.int v572, .ref o0, .int (10 * v707), .ref o0]) d_TrustDeskModel_next_199 lV_TrustDeskModel_207 b708 rfl (mj_enter (by decide) (Nat.le_of_ble_eq_true rfl) ?_) rfl (Nat.le_of_ble_eq_true rfl) (Nat.le_of_ble_eq_true rfl) (Nat.le_of_ble_eq_true rfl) (hst := rfl) (fun _ _ _ h => h)
                                refine mv_iload_n d_TrustDeskModel_see_0 rfl rfl ?_
                                refine mv_aload_n d_TrustDeskModel_see_1 rfl rfl ?_
                                refine tr_getK (k := 14) q574 d_TrustDeskModel_see_2 f_TrustDeskModel_189_13 ?_
                                have := mz_hi v572
                                have := mz_hi v575
                                refine mv_icmp_geZ (tgt := 17) (a := v572.toInt) (b := v575.toInt) d_TrustDeskModel_see_5 (by decide) rfl rfl (fun b709 => ?_) (fun b709 => ?_)
                                · refine mv_iconst (v := 0) d_TrustDeskModel_see_17 (by decide) ?_
                                  refine mv_iret d_TrustDeskModel_see_18 rfl (by first | rfl | decide) ?_
                                  refine mv_iadd d_TrustDeskModel_next_202 ?_
                                  refine mv_bipush (v := 48) d_TrustDeskModel_next_203 (by decide) ?_
                                  refine mv_isub d_TrustDeskModel_next_205 ?_
                                  have b710 : (10 * v707 : Int32).toInt = (10 * v707.toInt) := mz_mul2 (by decide) rfl (by have := kKR_566.1 15 _ _ rfl; have := kKR_566.1 16 _ _ rfl; have := kKR_566.1 19 _ _ rfl; omega) (by have := kKR_566.1 15 _ _ rfl; have := kKR_566.1 16 _ _ rfl; have := kKR_566.1 19 _ _ rfl; omega)
                                  have b711 : ((10 * v707) + 0 : Int32).toInt = ((10 * v707.toInt) + 0) := mz_add2 b710 (by decide) (by have := kKR_566.1 15 _ _ rfl; have := kKR_566.1 16 _ _ rfl; have := kKR_566.1 19 _ _ rfl; omega) (by have := kKR_566.1 15 _ _ rfl; have := kKR_566.1 16 _ _ rfl; have := kKR_566.1 19 _ _ rfl; omega)
                                  have b712 : (((10 * v707) + 0) - 48 : Int32).toInt = (((10 * v707.toInt) + 0) - 48) := mz_sub2 b711 (by decide) (by have := kKR_566.1 15 _ _ rfl; have := kKR_566.1 16 _ _ rfl; have := kKR_566.1 19 _ _ rfl; omega) (by have := kKR_566.1 15 _ _ rfl; have := kKR_566.1 16 _ _ rfl; have := kKR_566.1 19 _ _ rfl; omega)
                                  refine tr_putR (k := 18) I_566 kKR_566 h_q0_566 rfl ⟨_, rfl⟩ (fun _ h => by cases h) rfl (fun lo hi h => by cases h; have := kKR_566.1 15 _ _ rfl; have := kKR_566.1 16 _ _ rfl; have := kKR_566.1 19 _ _ rfl; exact ⟨by show ((-128) : Int) ≤ (((10 * v707) + 0) - 48).toInt; omega, by show (((10 * v707) + 0) - 48).toInt ≤ (9999 : Int); omega⟩) (Or.inl (by decide)) d_TrustDeskModel_next_206 p_TrustDeskModel_201_13 rfl rfl (fun M713 I714 q715 K716 R717 A718 V719 => ?_)
                                  have z720 := (V719 14 (by decide))
                                  have z721 := (V719 15 (by decide))
                                  have z722 := (V719 16 (by decide))
                                  have z723 := (V719 17 (by decide))
                                  have z724 := (V719 19 (by decide))
                                  have z725 := (V719 20 (by decide))
                                  have z726 : rv M713 o0 18 = (((10 * v707) + 0) - 48).toInt := tm_rv q715
                                  have B9727 : pB M713 o0 pb pn pa := kKB9_566.same (V719 14 (by decide)) (V719 23 (by decide)) (A718 13 (by decide))
                                  refine mv_aload_n d_TrustDeskModel_next_209 rfl rfl ?_
                                  refine mv_dup d_TrustDeskModel_next_210 rfl ?_
                                  refine tr_getK (k := 15) (K716 _ 13 15 _ rfl q571) d_TrustDeskModel_next_211 f_TrustDeskModel_192_13 ?_
                                  refine mv_iconst (v := 1) d_TrustDeskModel_next_214 (by decide) ?_
                                  refine mv_iadd d_TrustDeskModel_next_215 ?_
                                  have b728 : (v572 + 1 : Int32).toInt = (v572.toInt + 1) := mz_add2 rfl (by decide) (by have := R717.1 15 _ _ rfl; have := R717.1 16 _ _ rfl; have := R717.1 19 _ _ rfl; omega) (by have := R717.1 15 _ _ rfl; have := R717.1 16 _ _ rfl; have := R717.1 19 _ _ rfl; omega)
                                  refine tr_putR (k := 15) I714 R717 h_q0_566 rfl ⟨_, rfl⟩ (fun _ h => by cases h) rfl (fun lo hi h => by cases h; have := R717.1 15 _ _ rfl; have := R717.1 16 _ _ rfl; have := R717.1 19 _ _ rfl; exact ⟨by show (0 : Int) ≤ (v572 + 1).toInt; omega, by show (v572 + 1).toInt ≤ (400 : Int); omega⟩) (Or.inl (by decide)) d_TrustDeskModel_next_216 p_TrustDeskModel_192_13 rfl rfl (fun M729 I730 q731 K732 R733 A734 V735 => ?_)
                                  have z736 := (V735 14 (by decide)).trans z720
                                  have z737 := (V735 16 (by decide)).trans z722
                                  have z738 := (V735 17 (by decide)).trans z723
                                  have z739 := (V735 18 (by decide)).trans z726
                                  have z740 := (V735 19 (by decide)).trans z724
                                  have z741 := (V735 20 (by decide)).trans z725
                                  have z742 : rv M729 o0 15 = (v572 + 1).toInt := tm_rv q731
                                  have B9743 : pB M729 o0 pb pn pa := B9727.same (V735 14 (by decide)) (V735 23 (by decide)) (A734 13 (by decide))
                                  clear z720 z722 z723 z726 z724 z725
                                  refine mv_goto (tgt := 159) d_TrustDeskModel_next_219 (by decide) ?_
                                  exact (ih566 T_566 M729 n_566 I730 h_q0_566 (by have := R733.1 15 _ _ rfl; have := R733.1 16 _ _ rfl; have := R733.1 19 _ _ rfl; first | omega | decide | exact fun h9 => absurd (by decide) h9) (by have := R733.1 15 _ _ rfl; have := R733.1 16 _ _ rfl; have := R733.1 19 _ _ rfl; first | omega | decide | exact fun h9 => absurd (by decide) h9) (by have := R733.1 15 _ _ rfl; have := R733.1 16 _ _ rfl; have := R733.1 19 _ _ rfl; first | omega | decide | exact fun h9 => absurd (by decide) h9) (by have := R733.1 15 _ _ rfl; have := R733.1 16 _ _ rfl; have := R733.1 19 _ _ rfl; first | omega | decide | exact fun h9 => absurd (by decide) h9) (by have := R733.1 15 _ _ rfl; have := R733.1 16 _ _ rfl; have := R733.1 19 _ _ rfl; first | omega | decide | exact fun h9 => absurd (by decide) h9) (by have := R733.1 15 _ _ rfl; have := R733.1 16 _ _ rfl; have := R733.1 19 _ _ rfl; first | omega | decide | exact fun h9 => absurd (by decide) h9) (by have := R733.1 15 _ _ rfl; have := R733.1 16 _ _ rfl; have := R733.1 19 _ _ rfl; first | omega | decide | exact fun h9 => absurd (by decide) h9) (by have := R733.1 15 _ _ rfl; have := R733.1 16 _ _ rfl; have := R733.1 19 _ _ rfl; first | omega | decide | exact fun h9 => absurd (by decide) h9) (by have := R733.1 15 _ _ rfl; have := R733.1 16 _ _ rfl; have := R733.1 19 _ _ rfl; first | omega | decide | exact fun h9 => absurd (by decide) h9) (by have := R733.1 15 _ _ rfl; have := R733.1 16 _ _ rfl; have := R733.1 19 _ _ rfl; first | omega | decide | exact fun h9 => absurd (by decide) h9) (by have := R733.1 15 _ _ rfl; have := R733.1 16 _ _ rfl; have := R733.1 19 _ _ rfl; first | omega | decide | exact fun h9 => absurd (by decide) h9) ⟨p567 + 1, by have := R733.1 15 _ _ rfl; have := R733.1 16 _ _ rfl; have := R733.1 19 _ _ rfl; omega, by have := R733.1 15 _ _ rfl; have := R733.1 16 _ _ rfl; have := R733.1 19 _ _ rfl; omega, (p_rn_on (by have := R733.1 15 _ _ rfl; have := R733.1 16 _ _ rfl; have := R733.1 19 _ _ rfl; omega) (by omega)).symm.trans h569, fun z9 => by have z8 := h569v (by omega); rw [show p567 + 1 - p2 = (p567 - p2) + 1 from by omega, p_nu_out, ← z8, show p2 + (p567 - p2) = p567 from by omega]; have := R733.1 15 _ _ rfl; have := R733.1 16 _ _ rfl; have := R733.1 19 _ _ rfl; omega⟩ R733 B9743 (by have := R733.1 15 _ _ rfl; have := R733.1 16 _ _ rfl; have := R733.1 19 _ _ rfl; omega))
                                · refine mv_aload_n d_TrustDeskModel_see_8 rfl rfl ?_
                                  refine tr_getK (k := 13) q611 d_TrustDeskModel_see_9 f_TrustDeskModel_44_13 ?_
                                  refine mv_iload_n d_TrustDeskModel_see_12 rfl rfl ?_
                                  refine tr_baldR (o := o0) (k := 13) I_566 q611 t_a612 (by decide) d_TrustDeskModel_see_13 (vp_in_iff.mpr (by have := kKR_566.1 15 _ _ rfl; have := kKR_566.1 16 _ _ rfl; have := kKR_566.1 19 _ _ rfl; omega)) (fun v744 e745 => ?_)
                                  have := kKR_566.a (k := 13) rfl (v572 : Int32).toNatClampNeg
                                  have := kKB9_566.1
                                  have h746 : v572.toNatClampNeg = p567 := by have := mz_nat9 (i := v572) (by have := kKR_566.1 15 _ _ rfl; have := kKR_566.1 16 _ _ rfl; have := kKR_566.1 19 _ _ rfl; omega); have := kKR_566.1 15 _ _ rfl; have := kKR_566.1 16 _ _ rfl; have := kKR_566.1 19 _ _ rfl; omega
                                  have := kKB9_566.byte (p := p567) (v := v744.toInt) (by have := kKR_566.1 15 _ _ rfl; have := kKR_566.1 16 _ _ rfl; have := kKR_566.1 19 _ _ rfl; omega) (by rw [e745, h746])
                                  have := p_so_d (pb p567)
                                  refine mv_goto (tgt := 18) d_TrustDeskModel_see_14 (by decide) ?_
                                  refine mv_iret d_TrustDeskModel_see_18 rfl (by first | rfl | decide) ?_
                                  refine mv_iadd d_TrustDeskModel_next_202 ?_
                                  refine mv_bipush (v := 48) d_TrustDeskModel_next_203 (by decide) ?_
                                  refine mv_isub d_TrustDeskModel_next_205 ?_
                                  have b747 : (10 * v707 : Int32).toInt = (10 * v707.toInt) := mz_mul2 (by decide) rfl (by have := kKR_566.1 15 _ _ rfl; have := kKR_566.1 16 _ _ rfl; have := kKR_566.1 19 _ _ rfl; omega) (by have := kKR_566.1 15 _ _ rfl; have := kKR_566.1 16 _ _ rfl; have := kKR_566.1 19 _ _ rfl; omega)
                                  have b748 : ((10 * v707) + v744 : Int32).toInt = ((10 * v707.toInt) + v744.toInt) := mz_add2 b747 rfl (by have := kKR_566.1 15 _ _ rfl; have := kKR_566.1 16 _ _ rfl; have := kKR_566.1 19 _ _ rfl; omega) (by have := kKR_566.1 15 _ _ rfl; have := kKR_566.1 16 _ _ rfl; have := kKR_566.1 19 _ _ rfl; omega)
                                  have b749 : (((10 * v707) + v744) - 48 : Int32).toInt = (((10 * v707.toInt) + v744.toInt) - 48) := mz_sub2 b748 (by decide) (by have := kKR_566.1 15 _ _ rfl; have := kKR_566.1 16 _ _ rfl; have := kKR_566.1 19 _ _ rfl; omega) (by have := kKR_566.1 15 _ _ rfl; have := kKR_566.1 16 _ _ rfl; have := kKR_566.1 19 _ _ rfl; omega)
                                  refine tr_putR (k := 18) I_566 kKR_566 h_q0_566 rfl ⟨_, rfl⟩ (fun _ h => by cases h) rfl (fun lo hi h => by cases h; have := kKR_566.1 15 _ _ rfl; have := kKR_566.1 16 _ _ rfl; have := kKR_566.1 19 _ _ rfl; exact ⟨by show ((-128) : Int) ≤ (((10 * v707) + v744) - 48).toInt; omega, by show (((10 * v707) + v744) - 48).toInt ≤ (9999 : Int); omega⟩) (Or.inl (by decide)) d_TrustDeskModel_next_206 p_TrustDeskModel_201_13 rfl rfl (fun M750 I751 q752 K753 R754 A755 V756 => ?_)
                                  have z757 := (V756 14 (by decide))
                                  have z758 := (V756 15 (by decide))
                                  have z759 := (V756 16 (by decide))
                                  have z760 := (V756 17 (by decide))
                                  have z761 := (V756 19 (by decide))
                                  have z762 := (V756 20 (by decide))
                                  have z763 : rv M750 o0 18 = (((10 * v707) + v744) - 48).toInt := tm_rv q752
                                  have B9764 : pB M750 o0 pb pn pa := kKB9_566.same (V756 14 (by decide)) (V756 23 (by decide)) (A755 13 (by decide))
                                  refine mv_aload_n d_TrustDeskModel_next_209 rfl rfl ?_
                                  refine mv_dup d_TrustDeskModel_next_210 rfl ?_
                                  refine tr_getK (k := 15) (K753 _ 13 15 _ rfl q571) d_TrustDeskModel_next_211 f_TrustDeskModel_192_13 ?_
                                  refine mv_iconst (v := 1) d_TrustDeskModel_next_214 (by decide) ?_
                                  refine mv_iadd d_TrustDeskModel_next_215 ?_
                                  have b765 : (v572 + 1 : Int32).toInt = (v572.toInt + 1) := mz_add2 rfl (by decide) (by have := R754.1 15 _ _ rfl; have := R754.1 16 _ _ rfl; have := R754.1 19 _ _ rfl; omega) (by have := R754.1 15 _ _ rfl; have := R754.1 16 _ _ rfl; have := R754.1 19 _ _ rfl; omega)
                                  refine tr_putR (k := 15) I751 R754 h_q0_566 rfl ⟨_, rfl⟩ (fun _ h => by cases h) rfl (fun lo hi h => by cases h; have := R754.1 15 _ _ rfl; have := R754.1 16 _ _ rfl; have := R754.1 19 _ _ rfl; exact ⟨by show (0 : Int) ≤ (v572 + 1).toInt; omega, by show (v572 + 1).toInt ≤ (400 : Int); omega⟩) (Or.inl (by decide)) d_TrustDeskModel_next_216 p_TrustDeskModel_192_13 rfl rfl (fun M766 I767 q768 K769 R770 A771 V772 => ?_)
                                  have z773 := (V772 14 (by decide)).trans z757
                                  have z774 := (V772 16 (by decide)).trans z759
                                  have z775 := (V772 17 (by decide)).trans z760
                                  have z776 := (V772 18 (by decide)).trans z763
                                  have z777 := (V772 19 (by decide)).trans z761
                                  have z778 := (V772 20 (by decide)).trans z762
                                  have z779 : rv M766 o0 15 = (v572 + 1).toInt := tm_rv q768
                                  have B9780 : pB M766 o0 pb pn pa := B9764.same (V772 14 (by decide)) (V772 23 (by decide)) (A771 13 (by decide))
                                  clear z757 z759 z760 z763 z761 z762
                                  refine mv_goto (tgt := 159) d_TrustDeskModel_next_219 (by decide) ?_
                                  exact (ih566 T_566 M766 n_566 I767 h_q0_566 (by have := R770.1 15 _ _ rfl; have := R770.1 16 _ _ rfl; have := R770.1 19 _ _ rfl; first | omega | decide | exact fun h9 => absurd (by decide) h9) (by have := R770.1 15 _ _ rfl; have := R770.1 16 _ _ rfl; have := R770.1 19 _ _ rfl; first | omega | decide | exact fun h9 => absurd (by decide) h9) (by have := R770.1 15 _ _ rfl; have := R770.1 16 _ _ rfl; have := R770.1 19 _ _ rfl; first | omega | decide | exact fun h9 => absurd (by decide) h9) (by have := R770.1 15 _ _ rfl; have := R770.1 16 _ _ rfl; have := R770.1 19 _ _ rfl; first | omega | decide | exact fun h9 => absurd (by decide) h9) (by have := R770.1 15 _ _ rfl; have := R770.1 16 _ _ rfl; have := R770.1 19 _ _ rfl; first | omega | decide | exact fun h9 => absurd (by decide) h9) (by have := R770.1 15 _ _ rfl; have := R770.1 16 _ _ rfl; have := R770.1 19 _ _ rfl; first | omega | decide | exact fun h9 => absurd (by decide) h9) (by have := R770.1 15 _ _ rfl; have := R770.1 16 _ _ rfl; have := R770.1 19 _ _ rfl; first | omega | decide | exact fun h9 => absurd (by decide) h9) (by have := R770.1 15 _ _ rfl; have := R770.1 16 _ _ rfl; have := R770.1 19 _ _ rfl; first | omega | decide | exact fun h9 => absurd (by decide) h9) (by have := R770.1 15 _ _ rfl; have := R770.1 16 _ _ rfl; have := R770.1 19 _ _ rfl; first | omega | decide | exact fun h9 => absurd (by decide) h9) (by have := R770.1 15 _ _ rfl; have := R770.1 16 _ _ rfl; have := R770.1 19 _ _ rfl; first | omega | decide | exact fun h9 => absurd (by decide) h9) (by have := R770.1 15 _ _ rfl; have := R770.1 16 _ _ rfl; have := R770.1 19 _ _ rfl; first | omega | decide | exact fun h9 => absurd (by decide) h9) ⟨p567 + 1, by have := R770.1 15 _ _ rfl; have := R770.1 16 _ _ rfl; have := R770.1 19 _ _ rfl; omega, by have := R770.1 15 _ _ rfl; have := R770.1 16 _ _ rfl; have := R770.1 19 _ _ rfl; omega, (p_rn_on (by have := R770.1 15 _ _ rfl; have := R770.1 16 _ _ rfl; have := R770.1 19 _ _ rfl; omega) (by omega)).symm.trans h569, fun z9 => by have z8 := h569v (by omega); rw [show p567 + 1 - p2 = (p567 - p2) + 1 from by omega, p_nu_out, ← z8, show p2 + (p567 - p2) = p567 from by omega]; have := R770.1 15 _ _ rfl; have := R770.1 16 _ _ rfl; have := R770.1 19 _ _ rfl; omega⟩ R770 B9780 (by have := R770.1 15 _ _ rfl; have := R770.1 16 _ _ rfl; have := R770.1 19 _ _ rfl; omega))
                    exact mv_less (Nat.zero_le _) (Nat.zero_le _) (L159_566 4294967296 T_1 M551 n_1 I552 h_q0_1 (by have := R555.1 15 _ _ rfl; have := R555.1 16 _ _ rfl; have := R555.1 19 _ _ rfl; first | omega | decide | exact fun h9 => absurd (by decide) h9) (by have := R555.1 15 _ _ rfl; have := R555.1 16 _ _ rfl; have := R555.1 19 _ _ rfl; first | omega | decide | exact fun h9 => absurd (by decide) h9) (by have := R555.1 15 _ _ rfl; have := R555.1 16 _ _ rfl; have := R555.1 19 _ _ rfl; first | omega | decide | exact fun h9 => absurd (by decide) h9) (by have := R555.1 15 _ _ rfl; have := R555.1 16 _ _ rfl; have := R555.1 19 _ _ rfl; first | omega | decide | exact fun h9 => absurd (by decide) h9) (by have := R555.1 15 _ _ rfl; have := R555.1 16 _ _ rfl; have := R555.1 19 _ _ rfl; first | omega | decide | exact fun h9 => absurd (by decide) h9) (by have := R555.1 15 _ _ rfl; have := R555.1 16 _ _ rfl; have := R555.1 19 _ _ rfl; first | omega | decide | exact fun h9 => absurd (by decide) h9) (by have := R555.1 15 _ _ rfl; have := R555.1 16 _ _ rfl; have := R555.1 19 _ _ rfl; first | omega | decide | exact fun h9 => absurd (by decide) h9) (by have := R555.1 15 _ _ rfl; have := R555.1 16 _ _ rfl; have := R555.1 19 _ _ rfl; first | omega | decide | exact fun h9 => absurd (by decide) h9) (by have := R555.1 15 _ _ rfl; have := R555.1 16 _ _ rfl; have := R555.1 19 _ _ rfl; first | omega | decide | exact fun h9 => absurd (by decide) h9) (by have := R555.1 15 _ _ rfl; have := R555.1 16 _ _ rfl; have := R555.1 19 _ _ rfl; first | omega | decide | exact fun h9 => absurd (by decide) h9) (by have := R555.1 15 _ _ rfl; have := R555.1 16 _ _ rfl; have := R555.1 19 _ _ rfl; first | omega | decide | exact fun h9 => absurd (by decide) h9) ⟨p2 + 1, by have := R555.1 15 _ _ rfl; have := R555.1 16 _ _ rfl; have := R555.1 19 _ _ rfl; omega, by omega, rfl, fun _ => by rw [show p2 + 1 - p2 = 1 from by omega]; show _ = 10 * 0 + (pb p2 - 48); omega⟩ R555 B9565 (by have := R555.1 15 _ _ rfl; have := R555.1 16 _ _ rfl; have := R555.1 19 _ _ rfl; omega))
              · refine mv_iload_n d_TrustDeskModel_isSmall_6 rfl rfl ?_
                refine mv_bipush (v := 122) d_TrustDeskModel_isSmall_7 (by decide) ?_
                have := mz_hi v483
                refine mv_icmp_gtZ (tgt := 16) (a := v483.toInt) (b := 122) d_TrustDeskModel_isSmall_9 (by decide) rfl (by decide) (fun b781 => ?_) (fun b781 => ?_)
                · refine mv_iconst (v := 0) d_TrustDeskModel_isSmall_16 (by decide) ?_
                  refine mv_iret d_TrustDeskModel_isSmall_17 rfl (by decide) ?_
                  refine mv_if_eq_t (tgt := 144) d_TrustDeskModel_next_106 (by decide) (by decide) ?_
                  refine mv_iload_n d_TrustDeskModel_next_144 rfl rfl ?_
                  refine mv_callS (kc1 := 0) (ks1 := 0) (kc' := 0) (ks' := 0) (As := [.int v483]) (st9 := [.int v483]) d_TrustDeskModel_next_145 lS_TrustDeskModel_211 (mj_enter (by decide) (Nat.le_of_ble_eq_true rfl) ?_) rfl (Nat.le_of_ble_eq_true rfl) (Nat.le_of_ble_eq_true rfl) (Nat.le_of_ble_eq_true rfl) (hst := rfl) (fun _ _ _ h => h)
                  refine mv_iload_n d_TrustDeskModel_isDigit_0 rfl rfl ?_
                  refine mv_bipush (v := 48) d_TrustDeskModel_isDigit_1 (by decide) ?_
                  have := mz_hi v483
                  refine mv_icmp_ltZ (tgt := 16) (a := v483.toInt) (b := 48) d_TrustDeskModel_isDigit_3 (by decide) rfl (by decide) (fun b782 => absurd b782 (by omega)) (fun b782 => ?_)
                  refine mv_iload_n d_TrustDeskModel_isDigit_6 rfl rfl ?_
                  refine mv_bipush (v := 57) d_TrustDeskModel_isDigit_7 (by decide) ?_
                  have := mz_hi v483
                  refine mv_icmp_gtZ (tgt := 16) (a := v483.toInt) (b := 57) d_TrustDeskModel_isDigit_9 (by decide) rfl (by decide) (fun b783 => ?_) (fun b783 => absurd b783 (by omega))
                  refine mv_iconst (v := 0) d_TrustDeskModel_isDigit_16 (by decide) ?_
                  refine mv_iret d_TrustDeskModel_isDigit_17 rfl (by decide) ?_
                  refine mv_if_eq_t (tgt := 247) d_TrustDeskModel_next_148 (by decide) (by decide) ?_
                  refine mv_aload_n d_TrustDeskModel_next_247 rfl rfl ?_
                  refine mv_iconst (v := 4) d_TrustDeskModel_next_248 (by decide) ?_
                  refine tr_putR (k := 17) I503 R506 h_q0_1 rfl ⟨_, rfl⟩ (fun _ h => by cases h) rfl (fun lo hi h => by cases h) (Or.inl (by decide)) d_TrustDeskModel_next_249 p_TrustDeskModel_198_13 rfl rfl (fun M784 I785 q786 K787 R788 A789 V790 => ?_)
                  have z791 := (V790 14 (by decide)).trans z509
                  have z792 := (V790 15 (by decide)).trans z510
                  have z793 := (V790 16 (by decide)).trans z511
                  have z794 := (V790 18 (by decide)).trans z515
                  have z795 := (V790 19 (by decide)).trans z513
                  have z796 := (V790 20 (by decide)).trans z514
                  have z797 : rv M784 o0 17 = 4 := tm_rv q786
                  have B9798 : pB M784 o0 pb pn pa := B9516.same (V790 14 (by decide)) (V790 23 (by decide)) (A789 13 (by decide))
                  clear z509 z510 z511 z515 z513 z514
                  exact mv_vret d_TrustDeskModel_next_252 rfl ⟨_, I785, rfl, R788, (rT_of (by omega) (by omega) (by omega)), (by have := R788.1 15 _ _ rfl; have := R788.1 16 _ _ rfl; have := R788.1 19 _ _ rfl; omega), (pO.nx2 yO B9798 (by have := R788.1 15 _ _ rfl; have := R788.1 16 _ _ rfl; have := R788.1 19 _ _ rfl; omega) (by have := R788.1 15 _ _ rfl; have := R788.1 16 _ _ rfl; have := R788.1 19 _ _ rfl; omega) (fun w9 => by have q9 : p_st pb pn ps.2.2 = p2 := (yO.a hA w9).trans hst; exact pT.sign (by rw [q9]; omega) (by rw [q9]; omega) (by rw [q9]; have := R788.1 15 _ _ rfl; have := R788.1 16 _ _ rfl; have := R788.1 19 _ _ rfl; omega) (by rw [q9]; have := R788.1 15 _ _ rfl; have := R788.1 16 _ _ rfl; have := R788.1 19 _ _ rfl; omega) (by have := R788.1 15 _ _ rfl; have := R788.1 16 _ _ rfl; have := R788.1 19 _ _ rfl; omega) (by rw [q9]; omega)))⟩
                · refine mv_iconst (v := 1) d_TrustDeskModel_isSmall_12 (by decide) ?_
                  refine mv_goto (tgt := 17) d_TrustDeskModel_isSmall_13 (by decide) ?_
                  refine mv_iret d_TrustDeskModel_isSmall_17 rfl (by decide) ?_
                  refine mv_if_eq_f (tgt := 144) d_TrustDeskModel_next_106 (by decide) (by decide) ?_
                  have L109_799 : ∀ (k : Nat) (T_799 : tm_H) (M_799 : mj_M) (n_799 : Nat), tm_I tm_FT (tm_in w_TrustDeskModel_next_x) x9 T0 M0 n0 T_799 M_799 n_799 → T_799 o0 = some (0, 13, 0) → rv M0 o0 15 ≤ rv M_799 o0 16 → rv M_799 o0 16 < rv M_799 o0 15 → rv M_799 o0 19 = rv M0 o0 19 → rv M_799 o0 20 = rv M0 o0 20 → rv M_799 o0 16 = (p2 : Int) → p2 < pn → p_so (pb p2) = 1 → (∃ p : Nat, rv M_799 o0 15 = (p : Int) ∧ p ≤ pn ∧ p_rn pb pn 1 p = p_rn pb pn 1 (p2 + 1)) → (rI M_799 o0) → (pB M_799 o0 pb pn pa) → 401 - rv M_799 o0 15 < (k : Int) → mj_V g l kY_TrustDeskModel_next (d + 1) 109 [(1, .int v483), (0, .ref o0)] [] M_799 n_799 0 0 (tm_Q tm_FT (tm_in w_TrustDeskModel_next_x) x9 T0 M0 n0 (fun r _ M => r = none ∧ rI M o0 ∧ (rT M o0) ∧ (rv M0 o0 15 ≤ rv M o0 16) ∧ (pO M o0 pb pn pa ps))) := by
                    intro k799
                    induction k799 with
                    | zero =>
                      intro T_799 M_799 n_799 I_799 h_q0_799 iv0_799 iv1_799 iv2_799 iv3_799 iv4_799 iv5_799 iv6_799 iv7_799 kKR_799 kKB9_799 hk799
                      have := kKR_799.1 15 _ _ rfl
                      have := kKR_799.1 16 _ _ rfl
                      have := kKR_799.1 19 _ _ rfl
                      exfalso; omega
                    | succ k799 ih799 =>
                      intro T_799 M_799 n_799 I_799 h_q0_799 iv0_799 iv1_799 iv2_799 iv3_799 iv4_799 iv5_799 iv6_799 iv7_799 kKR_799 kKB9_799 hk799
                      obtain ⟨p800, h801, h803, h802⟩ := iv7_799
                      have := kKB9_799.1
                      refine mv_aload_n d_TrustDeskModel_next_109 rfl rfl ?_
                      refine mv_aload_n d_TrustDeskModel_next_110 rfl rfl ?_
                      obtain ⟨v805, q804⟩ := tm_atI I_799 h_q0_799 (k := 15) rfl
                      refine tr_getK q804 d_TrustDeskModel_next_111 f_TrustDeskModel_192_13 ?_
                      have := kKR_799.f (k := 15) q804 rfl
                      have := tm_rv q804
                      obtain ⟨_, b806, -⟩ := I_799.1 _ _ h_q0_799
                      refine mv_callV (kc1 := 0) (ks1 := 0) (kc' := 0) (ks' := 0) (As := [.int v805]) (st9 := [.int v805, .ref o0]) d_TrustDeskModel_next_114 lV_TrustDeskModel_207 b806 rfl (mj_enter (by decide) (Nat.le_of_ble_eq_true rfl) ?_) rfl (Nat.le_of_ble_eq_true rfl) (Nat.le_of_ble_eq_true rfl) (Nat.le_of_ble_eq_true rfl) (hst := rfl) (fun _ _ _ h => h)
                      refine mv_iload_n d_TrustDeskModel_see_0 rfl rfl ?_
                      refine mv_aload_n d_TrustDeskModel_see_1 rfl rfl ?_
                      obtain ⟨v808, q807⟩ := tm_atI I_799 h_q0_799 (k := 14) rfl
                      refine tr_getK q807 d_TrustDeskModel_see_2 f_TrustDeskModel_189_13 ?_
                      have := kKR_799.f (k := 14) q807 rfl
                      have := tm_rv q807
                      have := mz_hi v805
                      have := mz_hi v808
                      refine mv_icmp_geZ (tgt := 17) (a := v805.toInt) (b := v808.toInt) d_TrustDeskModel_see_5 (by decide) rfl rfl (fun b809 => ?_) (fun b809 => ?_)
                      · refine mv_iconst (v := 0) d_TrustDeskModel_see_17 (by decide) ?_
                        refine mv_iret d_TrustDeskModel_see_18 rfl (by first | rfl | decide) ?_
                        refine mv_callS (kc1 := 0) (ks1 := 0) (kc' := 0) (ks' := 0) (As := [.int 0]) (st9 := [.int 0]) d_TrustDeskModel_next_117 lS_TrustDeskModel_204 (mj_enter (by decide) (Nat.le_of_ble_eq_true rfl) ?_) rfl (Nat.le_of_ble_eq_true rfl) (Nat.le_of_ble_eq_true rfl) (Nat.le_of_ble_eq_true rfl) (hst := rfl) (fun _ _ _ h => h)
                        refine mv_iload_n d_TrustDeskModel_isSmall_0 rfl rfl ?_
                        refine mv_bipush (v := 97) d_TrustDeskModel_isSmall_1 (by decide) ?_
                        refine mv_icmp_lt_t (tgt := 16) d_TrustDeskModel_isSmall_3 (by decide) (by decide) ?_
                        refine mv_iconst (v := 0) d_TrustDeskModel_isSmall_16 (by decide) ?_
                        refine mv_iret d_TrustDeskModel_isSmall_17 rfl (by decide) ?_
                        refine mv_if_eq_t (tgt := 136) d_TrustDeskModel_next_120 (by decide) (by decide) ?_
                        refine mv_aload_n d_TrustDeskModel_next_136 rfl rfl ?_
                        refine mv_iconst (v := 3) d_TrustDeskModel_next_137 (by decide) ?_
                        refine tr_putR (k := 17) I_799 kKR_799 h_q0_799 rfl ⟨_, rfl⟩ (fun _ h => by cases h) rfl (fun lo hi h => by cases h) (Or.inl (by decide)) d_TrustDeskModel_next_138 p_TrustDeskModel_198_13 rfl rfl (fun M810 I811 q812 K813 R814 A815 V816 => ?_)
                        have z817 := (V816 14 (by decide))
                        have z818 := (V816 15 (by decide))
                        have z819 := (V816 16 (by decide))
                        have z820 := (V816 18 (by decide))
                        have z821 := (V816 19 (by decide))
                        have z822 := (V816 20 (by decide))
                        have z823 : rv M810 o0 17 = 3 := tm_rv q812
                        have B9824 : pB M810 o0 pb pn pa := kKB9_799.same (V816 14 (by decide)) (V816 23 (by decide)) (A815 13 (by decide))
                        refine mv_goto (tgt := 252) d_TrustDeskModel_next_141 (by decide) ?_
                        exact mv_vret d_TrustDeskModel_next_252 rfl ⟨_, I811, rfl, R814, (rT_of (by omega) (by omega) (by omega)), (by have := R814.1 15 _ _ rfl; have := R814.1 16 _ _ rfl; have := R814.1 19 _ _ rfl; omega), (pO.nx2 yO B9824 (by have := R814.1 15 _ _ rfl; have := R814.1 16 _ _ rfl; have := R814.1 19 _ _ rfl; omega) (by have := R814.1 15 _ _ rfl; have := R814.1 16 _ _ rfl; have := R814.1 19 _ _ rfl; omega) (fun w9 => by have q9 : p_st pb pn ps.2.2 = p2 := (yO.a hA w9).trans hst; have z9 : p_rn pb pn 1 (p2 + 1) = p800 := h802.symm.trans (p_rn_end (fun h9 => by omega)); exact pT.word (by rw [q9]; omega) (by rw [q9]; assumption) (by rw [q9]; have := R814.1 15 _ _ rfl; have := R814.1 16 _ _ rfl; have := R814.1 19 _ _ rfl; omega) (by rw [q9, z9]; have := R814.1 15 _ _ rfl; have := R814.1 16 _ _ rfl; have := R814.1 19 _ _ rfl; omega) (by have := R814.1 15 _ _ rfl; have := R814.1 16 _ _ rfl; have := R814.1 19 _ _ rfl; omega)))⟩
                      · refine mv_aload_n d_TrustDeskModel_see_8 rfl rfl ?_
                        obtain ⟨a826, q825, t_a826⟩ := tm_atR I_799 h_q0_799 (k := 13) rfl
                        refine tr_getK q825 d_TrustDeskModel_see_9 f_TrustDeskModel_44_13 ?_
                        refine mv_iload_n d_TrustDeskModel_see_12 rfl rfl ?_
                        refine tr_baldR (o := o0) (k := 13) I_799 q825 t_a826 (by decide) d_TrustDeskModel_see_13 (vp_in_iff.mpr (by have := kKR_799.1 15 _ _ rfl; have := kKR_799.1 16 _ _ rfl; have := kKR_799.1 19 _ _ rfl; omega)) (fun v827 e828 => ?_)
                        have := kKR_799.a (k := 13) rfl (v805 : Int32).toNatClampNeg
                        have := kKB9_799.1
                        have h829 : v805.toNatClampNeg = p800 := by have := mz_nat9 (i := v805) (by have := kKR_799.1 15 _ _ rfl; have := kKR_799.1 16 _ _ rfl; have := kKR_799.1 19 _ _ rfl; omega); have := kKR_799.1 15 _ _ rfl; have := kKR_799.1 16 _ _ rfl; have := kKR_799.1 19 _ _ rfl; omega
                        have := kKB9_799.byte (p := p800) (v := v827.toInt) (by have := kKR_799.1 15 _ _ rfl; have := kKR_799.1 16 _ _ rfl; have := kKR_799.1 19 _ _ rfl; omega) (by rw [e828, h829])
                        have := p_so_d (pb p800)
                        refine mv_goto (tgt := 18) d_TrustDeskModel_see_14 (by decide) ?_
                        refine mv_iret d_TrustDeskModel_see_18 rfl (by first | rfl | decide) ?_
                        refine mv_callS (kc1 := 0) (ks1 := 0) (kc' := 0) (ks' := 0) (As := [.int v827]) (st9 := [.int v827]) d_TrustDeskModel_next_117 lS_TrustDeskModel_204 (mj_enter (by decide) (Nat.le_of_ble_eq_true rfl) ?_) rfl (Nat.le_of_ble_eq_true rfl) (Nat.le_of_ble_eq_true rfl) (Nat.le_of_ble_eq_true rfl) (hst := rfl) (fun _ _ _ h => h)
                        refine mv_iload_n d_TrustDeskModel_isSmall_0 rfl rfl ?_
                        refine mv_bipush (v := 97) d_TrustDeskModel_isSmall_1 (by decide) ?_
                        have := mz_hi v827
                        refine mv_icmp_ltZ (tgt := 16) (a := v827.toInt) (b := 97) d_TrustDeskModel_isSmall_3 (by decide) rfl (by decide) (fun b830 => ?_) (fun b830 => ?_)
                        · refine mv_iconst (v := 0) d_TrustDeskModel_isSmall_16 (by decide) ?_
                          refine mv_iret d_TrustDeskModel_isSmall_17 rfl (by decide) ?_
                          refine mv_if_eq_t (tgt := 136) d_TrustDeskModel_next_120 (by decide) (by decide) ?_
                          refine mv_aload_n d_TrustDeskModel_next_136 rfl rfl ?_
                          refine mv_iconst (v := 3) d_TrustDeskModel_next_137 (by decide) ?_
                          refine tr_putR (k := 17) I_799 kKR_799 h_q0_799 rfl ⟨_, rfl⟩ (fun _ h => by cases h) rfl (fun lo hi h => by cases h) (Or.inl (by decide)) d_TrustDeskModel_next_138 p_TrustDeskModel_198_13 rfl rfl (fun M831 I832 q833 K834 R835 A836 V837 => ?_)
                          have z838 := (V837 14 (by decide))
                          have z839 := (V837 15 (by decide))
                          have z840 := (V837 16 (by decide))
                          have z841 := (V837 18 (by decide))
                          have z842 := (V837 19 (by decide))
                          have z843 := (V837 20 (by decide))
                          have z844 : rv M831 o0 17 = 3 := tm_rv q833
                          have B9845 : pB M831 o0 pb pn pa := kKB9_799.same (V837 14 (by decide)) (V837 23 (by decide)) (A836 13 (by decide))
                          refine mv_goto (tgt := 252) d_TrustDeskModel_next_141 (by decide) ?_
                          exact mv_vret d_TrustDeskModel_next_252 rfl ⟨_, I832, rfl, R835, (rT_of (by omega) (by omega) (by omega)), (by have := R835.1 15 _ _ rfl; have := R835.1 16 _ _ rfl; have := R835.1 19 _ _ rfl; omega), (pO.nx2 yO B9845 (by have := R835.1 15 _ _ rfl; have := R835.1 16 _ _ rfl; have := R835.1 19 _ _ rfl; omega) (by have := R835.1 15 _ _ rfl; have := R835.1 16 _ _ rfl; have := R835.1 19 _ _ rfl; omega) (fun w9 => by have q9 : p_st pb pn ps.2.2 = p2 := (yO.a hA w9).trans hst; have z9 : p_rn pb pn 1 (p2 + 1) = p800 := h802.symm.trans (p_rn_end (fun h9 => by omega)); exact pT.word (by rw [q9]; omega) (by rw [q9]; assumption) (by rw [q9]; have := R835.1 15 _ _ rfl; have := R835.1 16 _ _ rfl; have := R835.1 19 _ _ rfl; omega) (by rw [q9, z9]; have := R835.1 15 _ _ rfl; have := R835.1 16 _ _ rfl; have := R835.1 19 _ _ rfl; omega) (by have := R835.1 15 _ _ rfl; have := R835.1 16 _ _ rfl; have := R835.1 19 _ _ rfl; omega)))⟩
                        · refine mv_iload_n d_TrustDeskModel_isSmall_6 rfl rfl ?_
                          refine mv_bipush (v := 122) d_TrustDeskModel_isSmall_7 (by decide) ?_
                          have := mz_hi v827
                          refine mv_icmp_gtZ (tgt := 16) (a := v827.toInt) (b := 122) d_TrustDeskModel_isSmall_9 (by decide) rfl (by decide) (fun b846 => ?_) (fun b846 => ?_)
                          · refine mv_iconst (v := 0) d_TrustDeskModel_isSmall_16 (by decide) ?_
                            refine mv_iret d_TrustDeskModel_isSmall_17 rfl (by decide) ?_
                            refine mv_if_eq_t (tgt := 136) d_TrustDeskModel_next_120 (by decide) (by decide) ?_
                            refine mv_aload_n d_TrustDeskModel_next_136 rfl rfl ?_
                            refine mv_iconst (v := 3) d_TrustDeskModel_next_137 (by decide) ?_
                            refine tr_putR (k := 17) I_799 kKR_799 h_q0_799 rfl ⟨_, rfl⟩ (fun _ h => by cases h) rfl (fun lo hi h => by cases h) (Or.inl (by decide)) d_TrustDeskModel_next_138 p_TrustDeskModel_198_13 rfl rfl (fun M847 I848 q849 K850 R851 A852 V853 => ?_)
                            have z854 := (V853 14 (by decide))
                            have z855 := (V853 15 (by decide))
                            have z856 := (V853 16 (by decide))
                            have z857 := (V853 18 (by decide))
                            have z858 := (V853 19 (by decide))
                            have z859 := (V853 20 (by decide))
                            have z860 : rv M847 o0 17 = 3 := tm_rv q849
                            have B9861 : pB M847 o0 pb pn pa := kKB9_799.same (V853 14 (by decide)) (V853 23 (by decide)) (A852 13 (by decide))
                            refine mv_goto (tgt := 252) d_TrustDeskModel_next_141 (by decide) ?_
                            exact mv_vret d_TrustDeskModel_next_252 rfl ⟨_, I848, rfl, R851, (rT_of (by omega) (by omega) (by omega)), (by have := R851.1 15 _ _ rfl; have := R851.1 16 _ _ rfl; have := R851.1 19 _ _ rfl; omega), (pO.nx2 yO B9861 (by have := R851.1 15 _ _ rfl; have := R851.1 16 _ _ rfl; have := R851.1 19 _ _ rfl; omega) (by have := R851.1 15 _ _ rfl; have := R851.1 16 _ _ rfl; have := R851.1 19 _ _ rfl; omega) (fun w9 => by have q9 : p_st pb pn ps.2.2 = p2 := (yO.a hA w9).trans hst; have z9 : p_rn pb pn 1 (p2 + 1) = p800 := h802.symm.trans (p_rn_end (fun h9 => by omega)); exact pT.word (by rw [q9]; omega) (by rw [q9]; assumption) (by rw [q9]; have := R851.1 15 _ _ rfl; have := R851.1 16 _ _ rfl; have := R851.1 19 _ _ rfl; omega) (by rw [q9, z9]; have := R851.1 15 _ _ rfl; have := R851.1 16 _ _ rfl; have := R851.1 19 _ _ rfl; omega) (by have := R851.1 15 _ _ rfl; have := R851.1 16 _ _ rfl; have := R851.1 19 _ _ rfl; omega)))⟩
                          · refine mv_iconst (v := 1) d_TrustDeskModel_isSmall_12 (by decide) ?_
                            refine mv_goto (tgt := 17) d_TrustDeskModel_isSmall_13 (by decide) ?_
                            refine mv_iret d_TrustDeskModel_isSmall_17 rfl (by decide) ?_
                            refine mv_if_eq_f (tgt := 136) d_TrustDeskModel_next_120 (by decide) (by decide) ?_
                            refine mv_aload_n d_TrustDeskModel_next_123 rfl rfl ?_
                            refine mv_dup d_TrustDeskModel_next_124 rfl ?_
                            refine tr_getK (k := 15) q804 d_TrustDeskModel_next_125 f_TrustDeskModel_192_13 ?_
                            refine mv_iconst (v := 1) d_TrustDeskModel_next_128 (by decide) ?_
                            refine mv_iadd d_TrustDeskModel_next_129 ?_
                            have b862 : (v805 + 1 : Int32).toInt = (v805.toInt + 1) := mz_add2 rfl (by decide) (by have := kKR_799.1 15 _ _ rfl; have := kKR_799.1 16 _ _ rfl; have := kKR_799.1 19 _ _ rfl; omega) (by have := kKR_799.1 15 _ _ rfl; have := kKR_799.1 16 _ _ rfl; have := kKR_799.1 19 _ _ rfl; omega)
                            refine tr_putR (k := 15) I_799 kKR_799 h_q0_799 rfl ⟨_, rfl⟩ (fun _ h => by cases h) rfl (fun lo hi h => by cases h; have := kKR_799.1 15 _ _ rfl; have := kKR_799.1 16 _ _ rfl; have := kKR_799.1 19 _ _ rfl; exact ⟨by show (0 : Int) ≤ (v805 + 1).toInt; omega, by show (v805 + 1).toInt ≤ (400 : Int); omega⟩) (Or.inl (by decide)) d_TrustDeskModel_next_130 p_TrustDeskModel_192_13 rfl rfl (fun M863 I864 q865 K866 R867 A868 V869 => ?_)
                            have z870 := (V869 14 (by decide))
                            have z871 := (V869 16 (by decide))
                            have z872 := (V869 17 (by decide))
                            have z873 := (V869 18 (by decide))
                            have z874 := (V869 19 (by decide))
                            have z875 := (V869 20 (by decide))
                            have z876 : rv M863 o0 15 = (v805 + 1).toInt := tm_rv q865
                            have B9877 : pB M863 o0 pb pn pa := kKB9_799.same (V869 14 (by decide)) (V869 23 (by decide)) (A868 13 (by decide))
                            refine mv_goto (tgt := 109) d_TrustDeskModel_next_133 (by decide) ?_
                            exact (ih799 T_799 M863 n_799 I864 h_q0_799 (by have := R867.1 15 _ _ rfl; have := R867.1 16 _ _ rfl; have := R867.1 19 _ _ rfl; first | omega | decide | exact fun h9 => absurd (by decide) h9) (by have := R867.1 15 _ _ rfl; have := R867.1 16 _ _ rfl; have := R867.1 19 _ _ rfl; first | omega | decide | exact fun h9 => absurd (by decide) h9) (by have := R867.1 15 _ _ rfl; have := R867.1 16 _ _ rfl; have := R867.1 19 _ _ rfl; first | omega | decide | exact fun h9 => absurd (by decide) h9) (by have := R867.1 15 _ _ rfl; have := R867.1 16 _ _ rfl; have := R867.1 19 _ _ rfl; first | omega | decide | exact fun h9 => absurd (by decide) h9) (by have := R867.1 15 _ _ rfl; have := R867.1 16 _ _ rfl; have := R867.1 19 _ _ rfl; first | omega | decide | exact fun h9 => absurd (by decide) h9) (by have := R867.1 15 _ _ rfl; have := R867.1 16 _ _ rfl; have := R867.1 19 _ _ rfl; first | omega | decide | exact fun h9 => absurd (by decide) h9) (by have := R867.1 15 _ _ rfl; have := R867.1 16 _ _ rfl; have := R867.1 19 _ _ rfl; first | omega | decide | exact fun h9 => absurd (by decide) h9) ⟨p800 + 1, by have := R867.1 15 _ _ rfl; have := R867.1 16 _ _ rfl; have := R867.1 19 _ _ rfl; omega, by have := R867.1 15 _ _ rfl; have := R867.1 16 _ _ rfl; have := R867.1 19 _ _ rfl; omega, (p_rn_on (by have := R867.1 15 _ _ rfl; have := R867.1 16 _ _ rfl; have := R867.1 19 _ _ rfl; omega) (by omega)).symm.trans h802⟩ R867 B9877 (by have := R867.1 15 _ _ rfl; have := R867.1 16 _ _ rfl; have := R867.1 19 _ _ rfl; omega))
                  exact mv_less (Nat.zero_le _) (Nat.zero_le _) (L109_799 4294967296 T_1 M502 n_1 I503 h_q0_1 (by have := R506.1 15 _ _ rfl; have := R506.1 16 _ _ rfl; have := R506.1 19 _ _ rfl; first | omega | decide | exact fun h9 => absurd (by decide) h9) (by have := R506.1 15 _ _ rfl; have := R506.1 16 _ _ rfl; have := R506.1 19 _ _ rfl; first | omega | decide | exact fun h9 => absurd (by decide) h9) (by have := R506.1 15 _ _ rfl; have := R506.1 16 _ _ rfl; have := R506.1 19 _ _ rfl; first | omega | decide | exact fun h9 => absurd (by decide) h9) (by have := R506.1 15 _ _ rfl; have := R506.1 16 _ _ rfl; have := R506.1 19 _ _ rfl; first | omega | decide | exact fun h9 => absurd (by decide) h9) (by have := R506.1 15 _ _ rfl; have := R506.1 16 _ _ rfl; have := R506.1 19 _ _ rfl; first | omega | decide | exact fun h9 => absurd (by decide) h9) (by have := R506.1 15 _ _ rfl; have := R506.1 16 _ _ rfl; have := R506.1 19 _ _ rfl; first | omega | decide | exact fun h9 => absurd (by decide) h9) (by have := R506.1 15 _ _ rfl; have := R506.1 16 _ _ rfl; have := R506.1 19 _ _ rfl; first | omega | decide | exact fun h9 => absurd (by decide) h9) ⟨p2 + 1, by have := R506.1 15 _ _ rfl; have := R506.1 16 _ _ rfl; have := R506.1 19 _ _ rfl; omega, by omega, rfl⟩ R506 B9516 (by have := R506.1 15 _ _ rfl; have := R506.1 16 _ _ rfl; have := R506.1 19 _ _ rfl; omega))
            · refine mv_aload_n d_TrustDeskModel_next_71 rfl rfl ?_
              refine mv_iconst (v := 0) d_TrustDeskModel_next_72 (by decide) ?_
              refine tr_putR (k := 17) I467 R470 h_q0_1 rfl ⟨_, rfl⟩ (fun _ h => by cases h) rfl (fun lo hi h => by cases h) (Or.inl (by decide)) d_TrustDeskModel_next_73 p_TrustDeskModel_198_13 rfl rfl (fun M878 I879 q880 K881 R882 A883 V884 => ?_)
              have z885 := (V884 14 (by decide)).trans z473
              have z886 := (V884 15 (by decide)).trans z474
              have z887 := (V884 16 (by decide)).trans z479
              have z888 := (V884 18 (by decide)).trans z476
              have z889 := (V884 19 (by decide)).trans z477
              have z890 := (V884 20 (by decide)).trans z478
              have z891 : rv M878 o0 17 = 0 := tm_rv q880
              have B9892 : pB M878 o0 pb pn pa := B9480.same (V884 14 (by decide)) (V884 23 (by decide)) (A883 13 (by decide))
              clear z473 z474 z479 z476 z477 z478
              exact mv_vret d_TrustDeskModel_next_76 rfl ⟨_, I879, rfl, R882, (rT_of (by omega) (by omega) (by omega)), (by have := R882.1 15 _ _ rfl; have := R882.1 16 _ _ rfl; have := R882.1 19 _ _ rfl; omega), (pO.nx2 yO B9892 (by have := R882.1 15 _ _ rfl; have := R882.1 16 _ _ rfl; have := R882.1 19 _ _ rfl; omega) (by have := R882.1 15 _ _ rfl; have := R882.1 16 _ _ rfl; have := R882.1 19 _ _ rfl; omega) (fun w9 => by have q9 : p_st pb pn ps.2.2 = p2 := (yO.a hA w9).trans hst; exact pT.over (by rw [q9]; omega) (by rw [q9]; have := R882.1 15 _ _ rfl; have := R882.1 16 _ _ rfl; have := R882.1 19 _ _ rfl; omega) (by rw [q9]; have := R882.1 15 _ _ rfl; have := R882.1 16 _ _ rfl; have := R882.1 19 _ _ rfl; omega) (by have := R882.1 15 _ _ rfl; have := R882.1 16 _ _ rfl; have := R882.1 19 _ _ rfl; omega)))⟩
          · refine mv_aload_n d_TrustDeskModel_next_39 rfl rfl ?_
            refine mv_dup d_TrustDeskModel_next_40 rfl ?_
            refine tr_getK (k := 15) q6 d_TrustDeskModel_next_41 f_TrustDeskModel_192_13 ?_
            refine mv_iconst (v := 1) d_TrustDeskModel_next_44 (by decide) ?_
            refine mv_iadd d_TrustDeskModel_next_45 ?_
            have b893 : (v7 + 1 : Int32).toInt = (v7.toInt + 1) := mz_add2 rfl (by decide) (by have := kKR_1.1 15 _ _ rfl; have := kKR_1.1 16 _ _ rfl; have := kKR_1.1 19 _ _ rfl; omega) (by have := kKR_1.1 15 _ _ rfl; have := kKR_1.1 16 _ _ rfl; have := kKR_1.1 19 _ _ rfl; omega)
            refine tr_putR (k := 15) I_1 kKR_1 h_q0_1 rfl ⟨_, rfl⟩ (fun _ h => by cases h) rfl (fun lo hi h => by cases h; have := kKR_1.1 15 _ _ rfl; have := kKR_1.1 16 _ _ rfl; have := kKR_1.1 19 _ _ rfl; exact ⟨by show (0 : Int) ≤ (v7 + 1).toInt; omega, by show (v7 + 1).toInt ≤ (400 : Int); omega⟩) (Or.inl (by decide)) d_TrustDeskModel_next_46 p_TrustDeskModel_192_13 rfl rfl (fun M894 I895 q896 K897 R898 A899 V900 => ?_)
            have z901 := (V900 14 (by decide))
            have z902 := (V900 16 (by decide))
            have z903 := (V900 17 (by decide))
            have z904 := (V900 18 (by decide))
            have z905 := (V900 19 (by decide))
            have z906 := (V900 20 (by decide))
            have z907 : rv M894 o0 15 = (v7 + 1).toInt := tm_rv q896
            have B9908 : pB M894 o0 pb pn pa := kKB9_1.same (V900 14 (by decide)) (V900 23 (by decide)) (A899 13 (by decide))
            refine mv_goto (tgt := 0) d_TrustDeskModel_next_49 (by decide) ?_
            exact (ih1 T_1 M894 n_1 I895 h_q0_1 (by have := R898.1 15 _ _ rfl; have := R898.1 16 _ _ rfl; have := R898.1 19 _ _ rfl; first | omega | decide | exact fun h9 => absurd (by decide) h9) (by have := R898.1 15 _ _ rfl; have := R898.1 16 _ _ rfl; have := R898.1 19 _ _ rfl; first | omega | decide | exact fun h9 => absurd (by decide) h9) (by have := R898.1 15 _ _ rfl; have := R898.1 16 _ _ rfl; have := R898.1 19 _ _ rfl; first | omega | decide | exact fun h9 => absurd (by decide) h9) ⟨p2 + 1, by have := R898.1 15 _ _ rfl; have := R898.1 16 _ _ rfl; have := R898.1 19 _ _ rfl; omega, (p_rn_on (by have := R898.1 15 _ _ rfl; have := R898.1 16 _ _ rfl; have := R898.1 19 _ _ rfl; omega) (by omega)).symm.trans h4⟩ R898 B9908 (by have := R898.1 15 _ _ rfl; have := R898.1 16 _ _ rfl; have := R898.1 19 _ _ rfl; omega))
  exact mv_less (Nat.zero_le _) (Nat.zero_le _) (L0_1 4294967296 T0 M0 n0 I0 h_o0 (by have := yR.1 15 _ _ rfl; have := yR.1 16 _ _ rfl; have := yR.1 19 _ _ rfl; first | omega | decide | exact fun h9 => absurd (by decide) h9) (by have := yR.1 15 _ _ rfl; have := yR.1 16 _ _ rfl; have := yR.1 19 _ _ rfl; first | omega | decide | exact fun h9 => absurd (by decide) h9) (by have := yR.1 15 _ _ rfl; have := yR.1 16 _ _ rfl; have := yR.1 19 _ _ rfl; first | omega | decide | exact fun h9 => absurd (by decide) h9) ⟨pA, hA, hst⟩ yR yB (by have := yR.1 15 _ _ rfl; have := yR.1 16 _ _ rfl; have := yR.1 19 _ _ rfl; omega))
abbrev kY_TrustDeskModel_fails : mj_Y := (⟨"TrustDeskModel", "fails", "(I)V"⟩, prog_14_method_19_code, 2, (Option.none : Option Jvm.ClassFile.FieldType))
theorem d_TrustDeskModel_fails_0 : decode kY_TrustDeskModel_fails.2.1 0 = .ok (.aload_n 0, 1) := by decide +kernel
theorem d_TrustDeskModel_fails_1 : decode kY_TrustDeskModel_fails.2.1 1 = .ok (.getfield 224, 3) := by decide +kernel
theorem f_TrustDeskModel_224_13 : mj_fl "TrustDeskModel" 224 13 19 := ⟨kR_TrustDeskModel, kF_TrustDeskModel, 72, "TrustDeskModel", rfl, kg_13, by decide, (mj_in1 (List.mem_of_getElem? (i := 1405) (by decide +kernel)) rfl), Or.inl rfl⟩
theorem d_TrustDeskModel_fails_4 : decode kY_TrustDeskModel_fails.2.1 4 = .ok (.ifCond .eq 4, 3) := by decide +kernel
theorem d_TrustDeskModel_fails_8 : decode kY_TrustDeskModel_fails.2.1 8 = .ok (.aload_n 0, 1) := by decide +kernel
theorem d_TrustDeskModel_fails_9 : decode kY_TrustDeskModel_fails.2.1 9 = .ok (.iload_n 1, 1) := by decide +kernel
theorem d_TrustDeskModel_fails_10 : decode kY_TrustDeskModel_fails.2.1 10 = .ok (.putfield 224, 3) := by decide +kernel
theorem p_TrustDeskModel_224_13 : mj_fp "TrustDeskModel" 224 13 19 (kt_TrustDeskModel 19) false := ⟨kR_TrustDeskModel, kF_TrustDeskModel, 72, "TrustDeskModel", kt_TrustDeskModel, rfl, kg_13, by decide, (mj_in1 (List.mem_of_getElem? (i := 1405) (by decide +kernel)) rfl), Or.inl rfl, kto_TrustDeskModel, kn_TrustDeskModel, rfl, rfl, fun h => by cases h⟩
theorem d_TrustDeskModel_fails_13 : decode kY_TrustDeskModel_fails.2.1 13 = .ok (.aload_n 0, 1) := by decide +kernel
theorem d_TrustDeskModel_fails_14 : decode kY_TrustDeskModel_fails.2.1 14 = .ok (.aload_n 0, 1) := by decide +kernel
theorem d_TrustDeskModel_fails_15 : decode kY_TrustDeskModel_fails.2.1 15 = .ok (.getfield 195, 3) := by decide +kernel
theorem d_TrustDeskModel_fails_18 : decode kY_TrustDeskModel_fails.2.1 18 = .ok (.putfield 227, 3) := by decide +kernel
theorem p_TrustDeskModel_227_13 : mj_fp "TrustDeskModel" 227 13 20 (kt_TrustDeskModel 20) false := ⟨kR_TrustDeskModel, kF_TrustDeskModel, 72, "TrustDeskModel", kt_TrustDeskModel, rfl, kg_13, by decide, (mj_in1 (List.mem_of_getElem? (i := 1406) (by decide +kernel)) rfl), Or.inl rfl, kto_TrustDeskModel, kn_TrustDeskModel, rfl, rfl, fun h => by cases h⟩
theorem d_TrustDeskModel_fails_21 : decode kY_TrustDeskModel_fails.2.1 21 = .ok (.return_, 1) := by decide +kernel
theorem d_TrustDeskModel_fails_7 : decode kY_TrustDeskModel_fails.2.1 7 = .ok (.return_, 1) := by decide +kernel
def w_TrustDeskModel_fails_x : List Nat := [1319, 1320]
set_option maxHeartbeats 100000000 in theorem tc_TrustDeskModel_fails_x {g : mj_G} {l : Launch} {d : Nat} {T0 : tm_H} {M0 : mj_M} {n0 x9 : Nat} {o0 : Nat} {x1 : Int32} (h_o0 : T0 o0 = some (0, 13, 0)) (yR : rI M0 o0) (yf : 1 ≤ x1.toInt ∧ x1.toInt ≤ 4) {pb : Nat → Int} {pn : Nat} {pa : Int} {ps : p_S} (yO : pO M0 o0 pb pn pa ps) (I0 : tm_I tm_FT (tm_in w_TrustDeskModel_fails_x) x9 T0 M0 n0 T0 M0 n0) : mj_Met g l kY_TrustDeskModel_fails d [.ref o0, .int x1] M0 n0 0 0 (tm_Q tm_FT (tm_in w_TrustDeskModel_fails_x) x9 T0 M0 n0 (fun r _ M => r = none ∧ rI M o0 ∧ (rv M o0 19 ≠ 0) ∧ (pO M o0 pb pn pa (p_fl pb pn x1.toInt ps)))) := by
  refine mj_enter (by decide) (Nat.le_of_ble_eq_true rfl) ?_
  have := yO.w
  refine mv_aload_n d_TrustDeskModel_fails_0 rfl rfl ?_
  obtain ⟨v2, q1⟩ := tm_atI I0 h_o0 (k := 19) rfl
  refine tr_getK q1 d_TrustDeskModel_fails_1 f_TrustDeskModel_224_13 ?_
  have := yR.f (k := 19) q1 rfl
  have := tm_rv q1
  have := mz_hi v2
  refine mv_if_eqZ (tgt := 8) (a := v2.toInt) d_TrustDeskModel_fails_4 (by decide) rfl (fun b3 => ?_) (fun b3 => ?_)
  · refine mv_aload_n d_TrustDeskModel_fails_8 rfl rfl ?_
    refine mv_iload_n d_TrustDeskModel_fails_9 rfl rfl ?_
    refine tr_putR (k := 19) I0 yR h_o0 rfl ⟨_, rfl⟩ (fun _ h => by cases h) rfl (fun lo hi h => by cases h; have := yR.1 15 _ _ rfl; have := yR.1 16 _ _ rfl; have := yR.1 19 _ _ rfl; exact ⟨by show (0 : Int) ≤ x1.toInt; omega, by show x1.toInt ≤ (4 : Int); omega⟩) (Or.inl (by decide)) d_TrustDeskModel_fails_10 p_TrustDeskModel_224_13 rfl rfl (fun M4 I5 q6 K7 R8 A9 V10 => ?_)
    have z11 := (V10 16 (by decide))
    have z12 := (V10 17 (by decide))
    have z13 := (V10 22 (by decide))
    have z14 : rv M4 o0 19 = x1.toInt := tm_rv q6
    refine mv_aload_n d_TrustDeskModel_fails_13 rfl rfl ?_
    refine mv_aload_n d_TrustDeskModel_fails_14 rfl rfl ?_
    obtain ⟨v16, q15⟩ := tm_atI I5 h_o0 (k := 16) rfl
    refine tr_getK q15 d_TrustDeskModel_fails_15 f_TrustDeskModel_195_13 ?_
    have := R8.f (k := 16) q15 rfl
    have := (tm_rv q15).symm.trans z11
    have := tm_rv q15
    refine tr_putR (k := 20) I5 R8 h_o0 rfl ⟨_, rfl⟩ (fun _ h => by cases h) rfl (fun lo hi h => by cases h) (Or.inl (by decide)) d_TrustDeskModel_fails_18 p_TrustDeskModel_227_13 rfl rfl (fun M17 I18 q19 K20 R21 A22 V23 => ?_)
    have z24 := (V23 16 (by decide)).trans z11
    have z25 := (V23 17 (by decide)).trans z12
    have z26 := (V23 19 (by decide)).trans z14
    have z27 := (V23 22 (by decide)).trans z13
    clear z11 z12 z14 z13
    exact mv_vret d_TrustDeskModel_fails_21 rfl ⟨_, I18, rfl, R21, (by have := R21.1 15 _ _ rfl; have := R21.1 16 _ _ rfl; have := R21.1 19 _ _ rfl; omega), (yO.fails (by omega) (by omega) ((V23 14 (by decide)).trans (V10 14 (by decide))) ((V23 23 (by decide)).trans (V10 23 (by decide))) (fun i => (A22 13 (by decide) i).trans (A9 13 (by decide) i)) ((tm_rv (K20 _ 13 19 _ rfl q6)).trans (by omega)) ((tm_rv q19).trans (by omega)))⟩
  · exact mv_vret d_TrustDeskModel_fails_7 rfl ⟨_, I0, rfl, yR, (by have := yR.1 15 _ _ rfl; have := yR.1 16 _ _ rfl; have := yR.1 19 _ _ rfl; omega), (by rw [show p_fl pb pn x1.toInt ps = ps from if_neg (by omega)]; exact yO)⟩
