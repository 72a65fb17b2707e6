/-! what a token is, by its sort -/
section PDX
variable {M : mj_M} {o n : Nat} {b : Nat → Int} {na : Int} {s : p_S}
theorem pO.s4 (h : pO M o b n na s) (w0 : s.1 = 0) (hv : rv M o 17 = 4) : p_ki b n s.2.2 = 3 ∧ p_wi b n s.2.2 = -1 ∧ p_nm b n s.2.2 = -1 ∧ 0 ≤ p_sv b n s.2.2 ∧ p_sv b n s.2.2 ≤ 255 ∧ (p_sv b n s.2.2 < 128 ∧ rv M o 18 = p_sv b n s.2.2 ∨ 128 ≤ p_sv b n s.2.2 ∧ rv M o 18 = p_sv b n s.2.2 - 256) := by
  obtain ⟨t1, t2, t3, t4⟩ := h.t w0
  have t5 := t4 (by omega)
  have := h.d
  omega
theorem pO.s3 (h : pO M o b n na s) (w0 : s.1 = 0) (hv : rv M o 17 = 3) : p_ki b n s.2.2 = 1 ∧ p_nm b n s.2.2 = -1 ∧ p_sv b n s.2.2 = -1 := by
  obtain ⟨t1, t2, t3, t4⟩ := h.t w0
  have := h.d
  omega
theorem pO.s2 (h : pO M o b n na s) (w0 : s.1 = 0) (hv : rv M o 17 = 2) : p_ki b n s.2.2 = 2 ∧ p_wi b n s.2.2 = -1 ∧ p_sv b n s.2.2 = -1 ∧ 0 ≤ p_nm b n s.2.2 ∧ rv M o 18 = p_nm b n s.2.2 := by
  obtain ⟨t1, t2, t3, t4⟩ := h.t w0
  have t5 := t4 (by omega)
  have := h.d
  omega
theorem pO.s1 (h : pO M o b n na s) (w0 : s.1 = 0) (hv : rv M o 17 = 1) : p_ki b n s.2.2 = 2 ∧ p_wi b n s.2.2 = -1 ∧ p_sv b n s.2.2 = -1 ∧ p_nm b n s.2.2 < 0 := by
  obtain ⟨t1, t2, t3, t4⟩ := h.t w0
  have := h.d
  omega
theorem pO.s0 (h : pO M o b n na s) (w0 : s.1 = 0) (hv : rv M o 17 = 0) : p_ki b n s.2.2 = 0 ∧ p_wi b n s.2.2 = -1 ∧ p_sv b n s.2.2 = -1 ∧ p_nm b n s.2.2 = -1 := by
  obtain ⟨t1, t2, t3, t4⟩ := h.t w0
  have := h.d
  omega
theorem pO.n4 (h : pO M o b n na s) (w0 : s.1 = 0) (hv : rv M o 17 ≠ 4) : p_sv b n s.2.2 = -1 ∧ p_ki b n s.2.2 ≠ 3 := by
  obtain ⟨t1, t2, t3, t4⟩ := h.t w0
  have := h.d
  omega
theorem pO.n3 (h : pO M o b n na s) (w0 : s.1 = 0) (hv : rv M o 17 ≠ 3) : p_wi b n s.2.2 = -1 ∧ p_ki b n s.2.2 ≠ 1 := by
  obtain ⟨t1, t2, t3, t4⟩ := h.t w0
  have := h.d
  omega
theorem pO.n2 (h : pO M o b n na s) (w0 : s.1 = 0) (hv : rv M o 17 ≠ 2) : p_nm b n s.2.2 < 0 := by
  obtain ⟨t1, t2, t3, t4⟩ := h.t w0
  have := h.d
  omega
theorem pO.n0 (h : pO M o b n na s) (w0 : s.1 = 0) (hv : rv M o 17 ≠ 0) : p_ki b n s.2.2 ≠ 0 := by
  obtain ⟨t1, t2, t3, t4⟩ := h.t w0
  have := h.d
  omega
theorem pO.wk (h : pO M o b n na s) : 0 ≤ p_wi b n s.2.2 → p_ki b n s.2.2 = 1 ∧ p_nm b n s.2.2 = -1 ∧ p_sv b n s.2.2 = -1 := by
  have := h.d
  omega
end PDX
/-! the tape alone; the names told so far -/
def pN (M : mj_M) (o n : Nat) (N : List (Nat × Nat)) : Prop := rv M o 24 = (N.length : Int) ∧ ∀ (i : Nat) (q : Nat × Nat), N[i]? = some q → ra M o 25 i = (q.1 : Int) ∧ ra M o 26 i = (q.2 : Int) - (q.1 : Int) ∧ q.1 ≤ q.2 ∧ q.2 ≤ n
section PX
variable {M M0 M1 : mj_M} {o n k p q : Nat} {b : Nat → Int} {na : Int} {s : p_S} {N : List (Nat × Nat)}
theorem pX.same (h : pX M o b n) (a : sA [13] M M1 o) (f : sF [14] M M1 o) : pX M1 o b n := by
  obtain ⟨h1, h2, h3, h4⟩ := h
  exact ⟨(f 14 rfl).trans h1, h2, h3, fun i hi => by rw [a 13 rfl]; exact h4 i hi⟩
theorem pX.start (h : pX M o b n) (h23 : rv M o 23 = 0 ∧ na = 10 ∨ rv M o 23 ≠ 0 ∧ na = 13) (h19 : rv M o 19 = 0) (h15 : rv M o 15 = 0) : pP M o b n na (0, 0, 0) := ⟨⟨h.1, h.2.1, h.2.2.1, h.2.2.2, h23⟩, h19, fun w => absurd rfl w, fun _ => h15⟩
theorem pN.same (h : pN M o n N) (a : sA [25, 26] M M1 o) (f : sF [24] M M1 o) : pN M1 o n N := by
  obtain ⟨h1, h2⟩ := h
  refine ⟨(f 24 rfl).trans h1, fun i q hq => ?_⟩
  rw [a 25 rfl, a 26 rfl]
  exact h2 i q hq
theorem pN.st {k m : Nat} {v : Int} (h : pN M o n N) (A : ∀ j, j ≠ k → rgK j = true → ∀ i, ra M1 o j i = ra M o j i) (e : ∀ j, ra M1 o k j = if j = m then v else ra M o k j) (V : ∀ j, rv M1 o j = rv M o j) (hk : k = 25 ∨ k = 26) (hn : rv M o 24 ≤ (m : Int)) : pN M1 o n N := by
  obtain ⟨h1, h2⟩ := h
  refine ⟨(V 24).trans h1, fun i q hq => ?_⟩
  have hi : i < N.length := (List.getElem?_eq_some_iff.mp hq).1
  have h3 := h2 i q hq
  rcases hk with rfl | rfl
  · rw [e i, if_neg (by omega), A 26 (by decide) rfl]
    exact h3
  · rw [e i, if_neg (by omega), A 25 (by decide) rfl]
    exact h3
theorem pN.inc {m : Nat} (h : pN M o n N) (a : ∀ j, j ≠ 24 → ∀ i, ra M1 o j i = ra M o j i) (hv : rv M1 o 24 = rv M o 24 + 1) (hm : (m : Int) = rv M o 24) (h25 : ra M o 25 m = (p : Int)) (h26 : ra M o 26 m = (q : Int) - (p : Int)) (hp : p ≤ q) (hq : q ≤ n) : pN M1 o n (N ++ [(p, q)]) := by
  obtain ⟨h1, h2⟩ := h
  refine ⟨by rw [hv, h1, List.length_append]; rfl, fun i z hz => ?_⟩
  rw [a 25 (by decide), a 26 (by decide)]
  by_cases hi : i < N.length
  · rw [List.getElem?_append_left hi] at hz
    exact h2 i z hz
  · rw [List.getElem?_append_right (by omega)] at hz
    have hi2 : i = N.length := by
      have := (List.getElem?_eq_some_iff.mp hz).1
      simp at this
      omega
    subst hi2
    rw [Nat.sub_self] at hz
    cases hz
    have e : m = N.length := by omega
    subst e
    exact ⟨h25, h26, hp, hq⟩
theorem pN.nil (h : rv M o 24 = 0) : pN M o n [] := ⟨h, fun i q hq => by simp at hq⟩
/-- the name at i -/
theorem pN.g {i : Nat} (h : pN M o n N) (hi : (i : Int) < rv M o 24) : ∃ z : Nat × Nat, N[i]? = some z ∧ ra M o 25 i = (z.1 : Int) ∧ ra M o 26 i = (z.2 : Int) - (z.1 : Int) ∧ z.1 ≤ z.2 ∧ z.2 ≤ n := by
  have hl : i < N.length := by have := h.1; omega
  exact ⟨N[i], List.getElem?_eq_getElem hl, h.2 i _ (List.getElem?_eq_getElem hl)⟩
end PX
/-- a name held against another, byte by byte -/
theorem p_sm_of {b : Nat → Int} {q : Nat × Nat} {s e k : Nat} {z : Int} (hz : z = if q.2 - q.1 = e - s ∧ p_sam b k q.1 s = true then 1 else 0) (hk : k ≤ q.2 - q.1) (hd : z ≠ 0 → k = q.2 - q.1) : p_sm b q s e = z := by
  unfold p_sm
  by_cases h : q.2 - q.1 = e - s ∧ p_sam b k q.1 s = true
  · rw [if_pos h] at hz
    have h1 := hd (by omega)
    subst hz
    refine if_pos ⟨h.1, ?_⟩
    rw [← h.1, ← h1]
    exact h.2
  · rw [if_neg h] at hz
    subst hz
    refine if_neg fun h1 => h ⟨h1.1, ?_⟩
    have h2 := h1.2
    rw [show e - s = k + (e - s - k) from by omega] at h2
    exact p_sam_le _ h2
