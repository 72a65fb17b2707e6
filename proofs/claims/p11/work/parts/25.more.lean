/-! THE REFERENCE'S READING: rows -/
theorem mz_or9 {a b : Int32} (ha : 0 ≤ a.toInt) (ha1 : a.toInt ≤ 255) (hb : 0 ≤ b.toInt) (hb1 : b.toInt ≤ 255) : 0 ≤ (a ||| b).toInt ∧ (a ||| b).toInt ≤ 255 := by
  have key : ∀ x : Int32, 0 ≤ x.toInt → x.toInt ≤ 255 → x.toBitVec.toNat < 2 ^ 8 := fun x h0 h1 => by
    have h2 : x.toInt = x.toBitVec.toInt := rfl
    rw [h2] at h0 h1
    have h3 := BitVec.toInt_eq_toNat_cond x.toBitVec
    have h4 := x.toBitVec.isLt
    split at h3 <;> omega
  have h1 := key a ha ha1
  have h2 := key b hb hb1
  have h3 : (a ||| b).toBitVec.toNat < 2 ^ 8 := by
    show (a.toBitVec ||| b.toBitVec).toNat < 2 ^ 8
    rw [BitVec.toNat_or]
    exact Nat.or_lt_two_pow h1 h2
  have h4 : (a ||| b).toInt = (a ||| b).toBitVec.toInt := rfl
  have h5 := BitVec.toInt_eq_toNat_cond (a ||| b).toBitVec
  rw [h4]
  split at h5 <;> omega
theorem mz_shl9 {v : Int32} (h0 : 0 ≤ v.toInt) (h1 : v.toInt ≤ 7) : 0 ≤ ((1 : Int32) <<< (v &&& 31)).toInt ∧ ((1 : Int32) <<< (v &&& 31)).toInt ≤ 255 := by
  have key : ∀ n : Int, 0 ≤ n → n ≤ 7 → v.toInt = n → v = Int32.ofInt n := fun n _ _ h => by rw [← h, Int32.ofInt_toInt]
  rcases (show v.toInt = 0 ∨ v.toInt = 1 ∨ v.toInt = 2 ∨ v.toInt = 3 ∨ v.toInt = 4 ∨ v.toInt = 5 ∨ v.toInt = 6 ∨ v.toInt = 7 by omega) with h | h | h | h | h | h | h | h <;> (rw [key _ (by decide) (by decide) h]; decide)
section RZ
variable {M0 M M1 : mj_M} {o r : Nat}
theorem rK.trans (h : rK M0 M o r) (h1 : rK M M1 o r) : rK M0 M1 o r := fun k hk i hi => (h1 k hk i hi).trans (h k hk i hi)
theorem rcp.cast {a bs bd : Nat} {n n1 : Int} (h : rcp M0 M o a bs bd n) (e : n = n1) : rcp M0 M o a bs bd n1 := e ▸ h
theorem rW.of (h : rT M o) (h1 : rv M o 19 = 0 → ra M o 5 44 ≤ rv M o 16) (h2 : rv M o 19 = 0 → rG M o) : rW M o := ⟨h, fun w => ⟨h1 w, h2 w⟩⟩
theorem rW.start (h : rT M o) (R : rI M o) (h1 : ra M o 5 44 = 0) (h2 : ra M o 6 44 = 0) (h3 : rv M o 24 = 0) : rW M o := by
  refine ⟨h, fun _ => ⟨by rw [h1]; exact (R.1 16 _ _ rfl).1, fun k hk => by omega, ?_, fun i hi => by omega⟩⟩
  rw [h2, h3]
  exact Int.le_refl 0
end RZ
