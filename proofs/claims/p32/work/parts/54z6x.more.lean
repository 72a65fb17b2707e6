section QG
variable {b : Nat → Int} {n : Nat} {lo hi : Int} {s : p_S}
theorem p_num_ge (h : (p_num b n lo hi s).1 = 0) (h0 : s.1 = 0) : 0 ≤ p_nm b n s.2.2 := by
  refine Classical.byContradiction fun h1 => ?_
  unfold p_num at h
  rw [if_pos h0, if_neg h1] at h
  unfold p_fl at h
  rw [if_pos h0] at h
  exact absurd h (by show (1 : Int) ≠ 0; decide)
end QG
