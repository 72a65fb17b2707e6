/-- the fields of the classes, typed -/
def tm_FT (c : Nat) : List tm_F := match c with
  | 1 => [(0, 0, 0, 0), (0, 0, 0, 0), (3, 3, 2, 0), (2, 1, 1224, 6), (2, 1, 1232, 20)]
  | 2 => [(2, 2, 0, 0)]
  | 3 => [(2, 0, 4, 0), (0, 0, 0, 0), (0, 0, 0, 0), (0, 0, 0, 0)]
  | 4 => [(1, 0, 0, 0), (0, 0, 0, 0), (2, 0, 2, 0), (2, 0, 2, 0), (0, 0, 0, 0)]
  | 5 => [(2, 1, 4400, 300), (2, 1, 4408, 300), (2, 1, 4416, 300), (2, 1, 4424, 300), (0, 0, 0, 0)]
  | 6 => [(0, 0, 0, 0), (0, 0, 0, 0), (0, 0, 0, 0), (1, 0, 0, 0), (0, 0, 0, 0), (0, 0, 0, 0), (0, 0, 0, 0), (0, 0, 0, 0), (0, 0, 0, 0), (0, 0, 0, 0), (1, 0, 0, 0), (3, 3, 3, 0), (2, 1, 5296, 12), (2, 1, 5306, 100), (2, 1, 5314, 101)]
  | 7 => [(1, 0, 0, 0), (0, 0, 0, 0), (0, 0, 0, 0), (0, 0, 0, 0), (2, 1, 6032, 8), (2, 1, 6041, 8), (2, 1, 6048, 8), (2, 1, 6056, 8), (2, 1, 6064, 8), (2, 1, 6072, 8), (2, 1, 6080, 8), (2, 1, 6089, 8), (2, 1, 6097, 9), (1, 0, 0, 0)]
  | 8 => [(2, 0, 4, 0), (0, 0, 0, 0)]
  | 9 => [(0, 0, 0, 0), (0, 0, 0, 0), (0, 0, 0, 0), (2, 1, 7624, 400), (2, 1, 7632, 400), (2, 1, 7640, 400), (2, 1, 7648, 400), (2, 1, 7656, 400), (0, 0, 0, 0), (0, 0, 0, 0), (0, 0, 0, 0), (0, 0, 0, 0), (0, 0, 0, 0), (0, 0, 0, 0), (0, 0, 0, 0), (0, 0, 0, 0), (0, 0, 0, 0), (2, 1, 7736, 400), (0, 0, 0, 0)]
  | 10 => [(2, 1, 8401, 13), (0, 0, 0, 0), (2, 1, 8417, 64), (0, 0, 0, 0), (0, 0, 0, 0)]
  | 11 => [(0, 0, 0, 0), (0, 0, 0, 0), (0, 0, 0, 0), (0, 0, 0, 0), (0, 0, 0, 0), (0, 0, 0, 0), (0, 0, 0, 0), (0, 0, 0, 0), (0, 0, 0, 0), (0, 0, 0, 0), (2, 1, 9282, 100), (2, 1, 9291, 100)]
  | 12 => [(2, 0, 5, 0), (2, 0, 9, 0), (2, 0, 10, 0), (2, 0, 7, 0), (2, 0, 1, 0), (3, 3, 1, 0), (3, 3, 6, 0), (3, 3, 8, 0), (3, 3, 11, 0), (2, 1, 10072, 2400), (0, 0, 0, 0), (0, 0, 0, 0), (0, 0, 0, 0)]
  | 13 => [(0, 0, 0, 0), (0, 0, 0, 0), (0, 0, 0, 0), (2, 1, 160024, 1200), (2, 1, 160032, 18900), (2, 1, 160040, 45), (2, 1, 160048, 45), (2, 1, 160056, 900), (2, 1, 160064, 900), (2, 1, 160072, 900), (2, 1, 160080, 900), (2, 1, 160088, 900), (2, 1, 160096, 900), (2, 1, 160107, 400), (0, 0, 0, 0), (0, 0, 0, 0), (0, 0, 0, 0), (0, 0, 0, 0), (0, 0, 0, 0), (0, 0, 0, 0), (0, 0, 0, 0), (0, 0, 0, 0), (0, 0, 0, 0), (0, 0, 0, 0), (0, 0, 0, 0), (2, 1, 160200, 6), (2, 1, 160208, 6), (0, 0, 0, 0), (2, 1, 160224, 20), (2, 1, 160232, 13), (2, 1, 160240, 420), (0, 0, 0, 0), (0, 0, 0, 0), (2, 1, 160264, 12), (2, 1, 160272, 12), (2, 1, 160281, 12), (2, 1, 160288, 12), (2, 1, 160296, 12), (2, 1, 160304, 12), (2, 1, 160312, 12), (2, 1, 160322, 1200), (2, 1, 160328, 144), (2, 1, 160337, 12), (2, 1, 160344, 12), (2, 1, 160352, 960), (2, 1, 160360, 960), (2, 1, 160368, 960), (2, 1, 160376, 960), (2, 1, 160384, 960), (0, 0, 0, 0), (2, 1, 160400, 12), (0, 0, 0, 0), (2, 1, 160416, 2400), (0, 0, 0, 0), (2, 1, 160432, 40), (2, 1, 160440, 40), (2, 1, 160448, 40), (2, 1, 160456, 40), (2, 1, 160464, 40), (2, 1, 160472, 40), (2, 1, 160480, 40), (2, 1, 160490, 4000), (2, 1, 160496, 4000), (2, 1, 160505, 12), (2, 1, 160512, 12), (2, 1, 160520, 12), (2, 1, 160528, 12), (0, 0, 0, 0), (1, 0, 0, 0), (0, 0, 0, 0), (0, 0, 0, 0), (2, 1, 160570, 1212)]
  | _ => []
theorem tm_okF : tm_ok tm_FT := by
  intro c f hf
  unfold tm_FT at hf
  split at hf <;> first | exact absurd hf List.not_mem_nil | exact of_decide_eq_true (List.all_eq_true.mp (by decide : (_ : List tm_F).all (fun f => decide (f.2.1 < 5)) = true) f hf)
def tm_in (L : List Nat) : Nat → Bool := fun k => L.contains k
theorem tm_sub {L L1 : List Nat} (h : L1.all (fun k => L.contains k) = true) : ∀ k, tm_in L k = false → tm_in L1 k = false := by
  intro k hk
  cases h1 : tm_in L1 k with
  | false => rfl
  | true =>
    have h2 := List.all_eq_true.mp h k (by simpa [tm_in] using h1)
    rw [show tm_in L k = L.contains k from rfl, h2] at hk
    cases hk
theorem mz_hi (x : Int32) : x.toInt ≤ 2147483647 := by
  have := Int32.toInt_lt x
  omega
theorem mz_lo (x : Int32) : -2147483648 ≤ x.toInt := Int32.le_toInt x
theorem mz_addc {x : Int32} (c : Int32) (h1 : -2147483648 ≤ x.toInt + c.toInt) (h2 : x.toInt + c.toInt ≤ 2147483647) : (x + c).toInt = x.toInt + c.toInt := by
  rw [Int32.toInt_add]
  exact fb_bmod32 h1 (by omega)
theorem mz_addn {x : Int32} (c : Int32) (n : Int) (hc : c.toInt = n) (h1 : -2147483648 ≤ x.toInt + n) (h2 : x.toInt + n ≤ 2147483647) : (x + c).toInt = x.toInt + n := by
  subst hc
  exact mz_addc c h1 h2
theorem mz_subn {x : Int32} (c : Int32) (n : Int) (hc : c.toInt = n) (h1 : -2147483648 ≤ x.toInt - n) (h2 : x.toInt - n ≤ 2147483647) : (x - c).toInt = x.toInt - n := by
  subst hc
  rw [Int32.toInt_sub]
  exact fb_bmod32 h1 (by omega)
theorem tm_I.up {FT : Nat → List tm_F} {W : Nat → Bool} {x n0 n : Nat} {T0 T : tm_H} {M0 M : mj_M} (J : tm_I FT W x T0 M0 n0 T M n) {a : Nat} {t : tm_T} (h : T0 a = some t) : T a = some t := (J.2.2.2.2.2.1 a (J.2.2.2.2.1 a t h)).trans h
section MW
variable {g : mj_G} {l : Launch} {y : mj_Y} {d pc : Nat} {lv : List (Nat × Value)} {st : List Value} {M M1 : mj_M} {nx kc ks : Nat} {Q : Option Value → mj_M → Nat → Prop}
/-- with more room than is wanted -/
theorem mv_less {kc' ks' : Nat} (h1 : kc' ≤ kc) (h2 : ks' ≤ ks) (k : mj_V g l y d pc lv st M nx kc' ks' Q) : mj_V g l y d pc lv st M nx kc ks Q := by
  intro p e R s m args below meth c H locs ls cells slots TC TS X hR hS hl h3 h4 h5 h6
  exact k p e R s m args below meth c H locs ls cells slots TC TS X hR hS hl (by omega) (by omega) h5 h6
theorem mv_schN {index i a N : Nat} {x : Int32} (hd : decode y.2.1 pc = .ok (.invokevirtual index, 3)) (hw : mj_lV y.1.cls index kY_String_charAt 1) (hi : i < 37) (ha : 10 + i = a) (hN : (mj_byt.getD i []).length = N) (h0 : 0 ≤ x.toInt) (h1 : x.toInt < (N : Int)) (hcat : (st.map fun v => v.category).sum ≤ 8) (kk : ∀ v : Int32, mj_V g l y (d + 4) (pc + 3) lv (.int v :: st) M nx kc ks Q) : mj_V g l y (d + 4) pc lv (.int x :: .ref a :: st) M nx kc ks Q :=
  mv_schK hd hw hi ha h0 (by rw [hN]; exact h1) hcat (kk _)
theorem tm_dif {T : tm_H} {a b k p q k2 p2 q2 : Nat} (h1 : T b = some (k, p, q)) (h2 : T a = some (k2, p2, q2)) (h : Nat.beq k k2 = false) : b ≠ a := by
  intro e
  subst e
  rw [h1] at h2
  cases h2
  rw [Nat.beq_refl] at h
  cases h
theorem tm_at.eq {b c k : Nat} {w : Value} (e : M1 b = M b) (h : tm_at M b c k w) : tm_at M1 b c k w := by
  obtain ⟨fs, e1, e2⟩ := h
  exact ⟨fs, e.trans e1, e2⟩
theorem mz_lne {y : Int64} (h : 0 < y.toInt) : ¬ y = 0 := by
  intro e
  subst e
  exact absurd h (by decide)
theorem mz_max9 (x y : Int32) : ∃ v : Int32, (if x < y then y else x) = v ∧ x.toInt ≤ v.toInt ∧ y.toInt ≤ v.toInt ∧ (v.toInt = x.toInt ∨ v.toInt = y.toInt) := by
  by_cases h : x < y
  · rw [Int32.lt_iff_toInt_lt] at h
    exact ⟨y, if_pos (Int32.lt_iff_toInt_lt.mpr h), by omega, by omega, Or.inr rfl⟩
  · have h2 := h
    rw [Int32.lt_iff_toInt_lt] at h2
    exact ⟨x, if_neg h, by omega, by omega, Or.inl rfl⟩
theorem mz_min9 (x y : Int32) : ∃ v : Int32, (if y < x then y else x) = v ∧ v.toInt ≤ x.toInt ∧ v.toInt ≤ y.toInt ∧ (v.toInt = x.toInt ∨ v.toInt = y.toInt) := by
  by_cases h : y < x
  · rw [Int32.lt_iff_toInt_lt] at h
    exact ⟨y, if_pos (Int32.lt_iff_toInt_lt.mpr h), by omega, by omega, Or.inr rfl⟩
  · have h2 := h
    rw [Int32.lt_iff_toInt_lt] at h2
    exact ⟨x, if_neg h, by omega, by omega, Or.inl rfl⟩
end MW
