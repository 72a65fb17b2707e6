section QF
variable {b : Nat → Int} {n k : Nat} {s : p_S}
/-- four figures -/
theorem p_nm_le : p_nm b n k ≤ 9999 := by
  unfold p_nm
  by_cases h : p_ki b n k = 2 ∧ p_sp b n k ≤ p_st b n k + 4
  · rw [if_pos h]
    have h1 : p_st b n k < n := p_ki_lt (by omega)
    have h2 := p_ki_in h1
    have d : ∀ i, i < p_sp b n k - p_st b n k → b (p_st b n k + i) ≤ 57 := fun i hi => by
      have h3 := (p_in h1 i (by omega)).1
      have h4 := p_so_d (b (p_st b n k + i))
      omega
    obtain ⟨m, hm⟩ : ∃ m, p_sp b n k - p_st b n k = m := ⟨_, rfl⟩
    rw [hm] at d ⊢
    obtain ⟨p, hp⟩ : ∃ p, p_st b n k = p := ⟨_, rfl⟩
    rw [hp] at d ⊢
    rcases (show m = 0 ∨ m = 1 ∨ m = 2 ∨ m = 3 ∨ m = 4 by omega) with rfl | rfl | rfl | rfl | rfl
    · show (0 : Int) ≤ 9999
      decide
    · have d0 : b p ≤ 57 := d 0 (by omega)
      show 10 * 0 + (b p - 48) ≤ 9999
      omega
    · have d0 : b p ≤ 57 := d 0 (by omega)
      have d1 : b (p + 1) ≤ 57 := d 1 (by omega)
      show 10 * (10 * 0 + (b p - 48)) + (b (p + 1) - 48) ≤ 9999
      omega
    · have d0 : b p ≤ 57 := d 0 (by omega)
      have d1 : b (p + 1) ≤ 57 := d 1 (by omega)
      have d2 : b (p + 1 + 1) ≤ 57 := d 2 (by omega)
      show 10 * (10 * (10 * 0 + (b p - 48)) + (b (p + 1) - 48)) + (b (p + 1 + 1) - 48) ≤ 9999
      omega
    · have d0 : b p ≤ 57 := d 0 (by omega)
      have d1 : b (p + 1) ≤ 57 := d 1 (by omega)
      have d2 : b (p + 1 + 1) ≤ 57 := d 2 (by omega)
      have d3 : b (p + 1 + 1 + 1) ≤ 57 := d 3 (by omega)
      show 10 * (10 * (10 * (10 * 0 + (b p - 48)) + (b (p + 1) - 48)) + (b (p + 1 + 1) - 48)) + (b (p + 1 + 1 + 1) - 48) ≤ 9999
      omega
  · rw [if_neg h]
    decide
theorem p_num_99 (h : s.1 = 0) : p_num b n 0 9999 s = if 0 ≤ p_nm b n s.2.2 then p_nx s else p_fl b n 1 s := by
  unfold p_num
  rw [if_pos h]
  by_cases h1 : 0 ≤ p_nm b n s.2.2
  · rw [if_pos h1, if_pos h1, if_pos ⟨h1, p_nm_le⟩]
  · rw [if_neg h1, if_neg h1]
end QF
