/-! THE REFERENCE'S READING: rows -/
theorem mz_or9 {a b : Int32} (ha : 0 ≤ a.toInt) (ha1 : a.toInt ≤ 255) (hb : 0 ≤ b.toInt) (hb1 : b.toInt ≤ 255) : 0 ≤ (a ||| b).toInt ∧ (a ||| b).toInt ≤ 255 := by
  have key : ∀ x : Int32, 0 ≤ x.toInt → x.toInt ≤ 255 → x.toBitVec.toNat < 2 ^ 8 := fun x h0 h1 => by
    have h2 : x.toInt = x.toBitVec.toInt := rfl
    rw [h2] at h0 h1
    have h3 := BitVec.toInt_eq_toNat_cond x.toBitVec
    have h4 := x.toBitVec.isLt
    split at h3 <;> omega
  have h1 := key a ha ha1
  have h2 := key b hb hb1
  have h3 : (a ||| b).toBitVec.toNat < 2 ^ 8 := by
    show (a.toBitVec ||| b.toBitVec).toNat < 2 ^ 8
    rw [BitVec.toNat_or]
    exact Nat.or_lt_two_pow h1 h2
  have h4 : (a ||| b).toInt = (a ||| b).toBitVec.toInt := rfl
  have h5 := BitVec.toInt_eq_toNat_cond (a ||| b).toBitVec
  rw [h4]
  split at h5 <;> omega
theorem mz_shl9 {v : Int32} (h0 : 0 ≤ v.toInt) (h1 : v.toInt ≤ 7) : 0 ≤ ((1 : Int32) <<< (v &&& 31)).toInt ∧ ((1 : Int32) <<< (v &&& 31)).toInt ≤ 255 := by
  have key : ∀ n : Int, 0 ≤ n → n ≤ 7 → v.toInt = n → v = Int32.ofInt n := fun n _ _ h => by rw [← h, Int32.ofInt_toInt]
  rcases (show v.toInt = 0 ∨ v.toInt = 1 ∨ v.toInt = 2 ∨ v.toInt = 3 ∨ v.toInt = 4 ∨ v.toInt = 5 ∨ v.toInt = 6 ∨ v.toInt = 7 by omega) with h | h | h | h | h | h | h | h <;> (rw [key _ (by decide) (by decide) h]; decide)
section RZ
variable {M0 M M1 : mj_M} {o r : Nat}
theorem rK.trans (h : rK M0 M o r) (h1 : rK M M1 o r) : rK M0 M1 o r := fun k hk i hi => (h1 k hk i hi).trans (h k hk i hi)
theorem rcp.cast {a bs bd : Nat} {n n1 : Int} (h : rcp M0 M o a bs bd n) (e : n = n1) : rcp M0 M o a bs bd n1 := e ▸ h
theorem rW.of (h : rT M o) (h1 : rv M o 19 = 0 → ra M o 5 44 ≤ rv M o 16) (h2 : rv M o 19 = 0 → rG M o) : rW M o := ⟨h, fun w => ⟨h1 w, h2 w⟩⟩
theorem rW.start (h : rT M o) (R : rI M o) (h1 : ra M o 5 44 = 0) (h2 : ra M o 6 44 = 0) (h3 : rv M o 24 = 0) : rW M o := by
  refine ⟨h, fun _ => ⟨by rw [h1]; exact (R.1 16 _ _ rfl).1, fun k hk => by omega, ?_, fun i hi => by omega⟩⟩
  rw [h2, h3]
  exact Int.le_refl 0
end RZ
/-- the word end stands here -/
def rwE (M : mj_M) (o : Nat) : Prop := rv M o 17 = 3 ∧ rv M o 15 - rv M o 16 = 3 ∧ ra M o 13 ((rv M o 16).toNat + 0) = 101 ∧ ra M o 13 ((rv M o 16).toNat + 1) = 110 ∧ ra M o 13 ((rv M o 16).toNat + 2) = 100
section RS
variable {M0 M M1 : mj_M} {o t : Nat}
theorem rwE.same (h : rwE M o) (a : sA [13] M M1 o) (f : sF [15, 16, 17] M M1 o) : rwE M1 o := by
  unfold rwE
  rw [a 13 rfl, f 15 rfl, f 16 rfl, f 17 rfl]
  exact h
theorem sA.trans {L : List Nat} (h : sA L M0 M o) (h1 : sA L M M1 o) : sA L M0 M1 o := fun k hk => (h1 k hk).trans (h k hk)
theorem rW.same (h : rW M o) (a : sA [4, 5, 6, 7, 8, 10, 11, 12, 25, 26] M M1 o) (f : sF [15, 16, 17, 18, 19, 24] M M1 o) : rW M1 o := by
  obtain ⟨⟨t1, t2, t3⟩, h⟩ := h
  refine ⟨?_, fun w => ?_⟩
  · unfold rT
    rw [f 15 rfl, f 16 rfl, f 17 rfl, f 18 rfl]
    exact ⟨t1, t2, t3⟩
  · rw [f 19 rfl] at w
    obtain ⟨h1, g1, g2, g3⟩ := h w
    refine ⟨?_, ?_, ?_, ?_⟩
    · rw [a 5 rfl, f 16 rfl]
      exact h1
    · unfold rowN sN
      rw [a 4 rfl, a 5 rfl, a 6 rfl, a 7 rfl, a 8 rfl, a 10 rfl, a 11 rfl, a 12 rfl]
      exact g1
    · rw [kc_congr (M0 := M) _ (fun i _ => by rw [a 7 rfl]), a 6 rfl, f 24 rfl]
      exact g2
    · unfold nN
      rw [a 25 rfl, a 26 rfl, f 24 rfl]
      exact g3
theorem rW.fail (h : rW M o) (f : sF [15, 16, 17, 18] M M1 o) (hf : rv M1 o 19 ≠ 0) : rW M1 o := by
  obtain ⟨⟨t1, t2, t3⟩, h⟩ := h
  refine ⟨?_, fun w => absurd w hf⟩
  unfold rT
  rw [f 15 rfl, f 16 rfl, f 17 rfl, f 18 rfl]
  exact ⟨t1, t2, t3⟩
theorem rC.st {v : Int} (C : rC M0 o 44) (R0 : rI M0 o) (Wd : rW M0 o) (ht : t < 44) (hU : rU M0 o t) (s1 : rv M0 o 19 ≠ 0 → v < 0 ∧ sA [4, 7, 8, 10, 11, 12] M0 M o) (s2 : rv M0 o 19 = 0 → v = 0 ∧ rcp M0 M o 4 18480 (420 * t) (ra M0 o 5 44) ∧ rcp M0 M o 7 880 (20 * t) (ra M0 o 6 44) ∧ rcp M0 M o 8 880 (20 * t) (ra M0 o 6 44) ∧ rcp M0 M o 10 880 (20 * t) (ra M0 o 6 44) ∧ rcp M0 M o 11 880 (20 * t) (ra M0 o 6 44) ∧ rcp M0 M o 12 880 (20 * t) (ra M0 o 6 44) ∧ ra M o 6 t = ra M0 o 6 44) (a : sA [43, 44, 45] M0 M o) (f : sF [27, 32, 49] M0 M o) : (v < 0 → rC M o 44) ∧ (0 ≤ v → rC M o t) := by
  refine ⟨fun hv => ?_, fun hv => ?_⟩
  · by_cases w : rv M0 o 19 = 0
    · have := (s2 w).1
      omega
    · have h1 := (s1 w).2
      refine C.same (fun k hk => ?_) f
      by_cases h9 : [43, 44, 45].contains k = true
      · exact a k h9
      · exact h1 k (by simp only [List.contains_cons, List.contains_nil, Bool.or_false, Bool.or_eq_true, beq_iff_eq] at hk h9 ⊢; omega)
  · by_cases w : rv M0 o 19 = 0
    · obtain ⟨-, q4, q7, q8, q10, q11, q12, -⟩ := s2 w
      exact rC.stops C R0 Wd w ht hU q4 q7 q8 q10 q11 q12 a f
    · have := (s1 w).1
      omega
theorem rC.act (C : rC M o t) (A : ∀ j, j ≠ 27 → ∀ i, ra M1 o j i = ra M o j i) (V : ∀ j, j ≠ 27 → rv M1 o j = rv M o j) (ht : (t : Int) = rv M o 27) (h1 : rv M1 o 27 = rv M o 27 + 1) (h20 : rv M o 27 < 20) : rC M1 o 44 := by
  have v1 := V 32 (by decide)
  have v2 := V 49 (by decide)
  refine C.more (sA_f A (by decide)) (fun t1 hu => ?_) (by omega) (fun h => by omega)
  unfold rU at hu ⊢
  rw [h1, v1, v2] at hu
  omega
theorem rC.near (C : rC M o t) (A : ∀ j, j ≠ 49 → ∀ i, ra M1 o j i = ra M o j i) (V : ∀ j, j ≠ 49 → rv M1 o j = rv M o j) (ht : (t : Int) = 32 + rv M o 49) (h1 : rv M1 o 49 = rv M o 49 + 1) (h0 : 0 ≤ rv M o 49) (h8 : ra M o 7 (20 * t) = 8) : rC M1 o 44 := by
  have v1 := V 32 (by decide)
  have v2 := V 27 (by decide)
  refine C.more (sA_f A (by decide)) (fun t1 hu => ?_) (by omega) (fun h => ⟨ht, h1, h8⟩)
  unfold rU at hu ⊢
  rw [h1, v1, v2] at hu
  omega
theorem rC.fund (C : rC M o t) (A : ∀ j, j ≠ 32 → ∀ i, ra M1 o j i = ra M o j i) (V : ∀ j, j ≠ 32 → rv M1 o j = rv M o j) (ht : (t : Int) = 20 + rv M o 32) (h1 : rv M1 o 32 = rv M o 32 + 1) (h0 : 0 ≤ rv M o 32) (h12 : rv M o 32 < 12) : rC M1 o 44 := by
  have v1 := V 49 (by decide)
  have v2 := V 27 (by decide)
  refine C.more (sA_f A (by decide)) (fun t1 hu => ?_) (by omega) (fun h => by omega)
  unfold rU at hu ⊢
  rw [h1, v1, v2] at hu
  omega
end RS
section VS
variable {g : mj_G} {l : Launch} {y : mj_Y} {d pc : Nat} {lv : List (Nat × Value)} {st : List Value} {M : mj_M} {nx kc9 ks9 : Nat} {Q : Option Value → mj_M → Nat → Prop}
theorem mv_schC {index i a : Nat} {x v : Int32} (hd : decode y.2.1 pc = .ok (.invokevirtual index, 3)) (hw : mj_lV y.1.cls index kY_String_charAt 1) (hi : i < 37) (ha : 10 + i = a) (h0 : 0 ≤ x.toInt) (h1 : x.toInt < (((mj_byt.getD i []).length : Nat) : Int)) (hcat : (st.map fun v => v.category).sum ≤ 8) (hv : mj_ch i x.toNatClampNeg = v) (kk : mj_V g l y (d + 4) (pc + 3) lv (.int v :: st) M nx kc9 ks9 Q) : mj_V g l y (d + 4) pc lv (.int x :: .ref a :: st) M nx kc9 ks9 Q := mv_schK hd hw hi ha h0 h1 hcat (hv ▸ kk)
end VS
theorem rE.w2 {M0 M : mj_M} {o : Nat} {z c : Int} (h : rE M0 M o z c) : rv M o 19 = 0 → rv M0 o 16 + c ≤ rv M o 16 := fun w => by
  obtain ⟨-, b2, b3, -⟩ := h.2.2.2 w
  omega
theorem k8_of {M0 M : mj_M} {o t : Nat} {v : Int} {A B C : Prop} (s1 : rv M0 o 19 ≠ 0 → v < 0 ∧ A) (s2 : rv M0 o 19 = 0 → v = 0 ∧ B ∧ rcp M0 M o 7 880 (20 * t) (ra M0 o 6 44) ∧ C) (h : rv M0 o 19 = 0 → ra M0 o 7 880 = 8 ∧ ra M0 o 6 44 = 1) : 0 ≤ v → ra M o 7 (20 * t) = 8 := fun hv => by
  by_cases w : rv M0 o 19 = 0
  · obtain ⟨h1, h2⟩ := h w
    have := (s2 w).2.2.1.1 0 (by omega)
    rw [Nat.add_zero, Nat.add_zero] at this
    omega
  · have := (s1 w).1
    omega
/-- what reading an end leaves: its sum's and its condition's signs -/
def rD (M0 M : mj_M) (o r : Nat) : Prop := ra M0 o 5 44 ≤ ra M o 11 r ∧ ra M o 11 r ≤ ra M o 5 44 ∧ 0 ≤ dq (sN M o) (ra M0 o 5 44) (ra M o 11 r) 0 ∧ 0 ≤ dq (sN M o) (ra M o 11 r) (ra M o 5 44) 0
section RDD
variable {M0 M M1 Mm : mj_M} {o r : Nat} {z c z1 c1 : Int}
theorem rD.same (h : rD M0 M o r) (a : sA [4, 5, 11] M M1 o) : rD M0 M1 o r := by
  unfold rD sN
  rw [a 4 rfl, a 5 rfl, a 11 rfl]
  exact h
theorem rD.of (E : rE M0 Mm o z c) (F : rE Mm M o z1 c1) (w : rv M o 19 = 0) (hz : 0 ≤ z) (hz1 : 0 ≤ z1) (hs : 0 ≤ ra M0 o 5 44) (h11 : ra M o 11 r = ra Mm o 5 44) : rD M0 M o r := by
  obtain ⟨b1, b2, -, b4, b5⟩ := F.2.2.2 w
  obtain ⟨-, a2, -, -, a5⟩ := E.2.2.2 b1
  unfold rD
  rw [h11, dq_congr (f := sN M o) (g := sN Mm o) hs (fun i h1 h2 => b4 i h2), a5 0 (by decide), b5 0 (by decide)]
  omega
theorem rowN.ofD (D : rD M0 M o r) (h10 : ra M o 10 r = ra M0 o 5 44) (h12 : ra M o 12 r = ra M o 5 44) : rowN M o r := by
  unfold rowN
  rw [h10, h12]
  exact ⟨D.1, D.2.1, Int.le_refl _, D.2.2.1, D.2.2.2⟩
end RDD
/-- a fact that omega needn't look at -/
def Im (p : Prop) : Prop := p
theorem Im.i {p : Prop} (h : p) : Im p := h
theorem Im.o {p : Prop} (h : Im p) : p := h
theorem rE.s {M0 M : mj_M} {o : Nat} {z c : Int} (h : rE M0 M o z c) (h0 : rv M0 o 19 = 0 → ra M0 o 5 44 ≤ rv M0 o 16) (hc : 0 ≤ c) : rv M o 19 = 0 → ra M o 5 44 ≤ rv M o 16 := fun w => by
  have := (h.f h0).2.2.2.2 w
  omega
