/-! THE DESK'S READER STANDS AT A TOKEN -/
/-- what its value is: of a word its number, of figures theirs, of a sign its byte -/
def p_va (b : Nat → Int) (n k : Nat) : Int := if p_ki b n k = 1 then p_wi b n k else if p_ki b n k = 2 then p_nm b n k else p_sv b n k
/-- its tape -/
def qB (M : mj_M) (o : Nat) (b : Nat → Int) (n : Nat) : Prop := rv M o 0 = (n : Int) ∧ n ≤ 400 ∧ (∀ i, 0 ≤ b i ∧ b i ≤ 255) ∧ ∀ i : Nat, i < n → ra M o 3 i = b i
/-- the tokens that are cut -/
def qR (M : mj_M) (o : Nat) (b : Nat → Int) (n tc : Nat) : Prop := rv M o 8 = (tc : Int) ∧ tc ≤ n ∧ ∀ k : Nat, k < tc → p_st b n k < n ∧ ra M o 4 k = p_ki b n k ∧ ra M o 5 k = (p_st b n k : Int) ∧ ra M o 6 k = (p_sp b n k : Int) ∧ ra M o 7 k = p_va b n k
def qC (M : mj_M) (o : Nat) (b : Nat → Int) (n : Nat) (na : Int) : Prop := qB M o b n ∧ rv M o 15 = na ∧ (na = 10 ∨ na = 13) ∧ ∃ tc : Nat, qR M o b n tc ∧ ¬ p_st b n tc < n
/-- where it stands -/
def qS (M : mj_M) (o : Nat) (b : Nat → Int) (n : Nat) (s : p_S) : Prop := ∃ vf vp va vk vs ve vv : Int32, tm_at M o 9 1 (.int vf) ∧ tm_at M o 9 2 (.int vp) ∧ tm_at M o 9 9 (.int va) ∧ tm_at M o 9 10 (.int vk) ∧ tm_at M o 9 11 (.int vs) ∧ tm_at M o 9 12 (.int ve) ∧ tm_at M o 9 13 (.int vv) ∧ vf.toInt = s.1 ∧ (s.1 ≠ 0 → vp.toInt = (s.2.1 : Int)) ∧ (s.1 = 0 → va.toInt = (s.2.2 : Int) ∧ vk.toInt = p_ki b n s.2.2 ∧ vs.toInt = (p_st b n s.2.2 : Int) ∧ ve.toInt = (p_sp b n s.2.2 : Int) ∧ vv.toInt = p_va b n s.2.2 ∧ vp.toInt = -1)
section QD
variable {FT : Nat → List tm_F} {M M0 M1 : mj_M} {o n k tc x n0 nx : Nat} {b : Nat → Int} {na : Int} {s : p_S} {W W0 : Nat → Bool} {T T0 : tm_H}
theorem p_nu_ge : ∀ (m p : Nat) (v : Int), 0 ≤ v → (∀ i, i < m → 48 ≤ b (p + i)) → 0 ≤ p_nu b m p v
  | 0, _, _, h, _ => h
  | m + 1, p, v, h, h1 => p_nu_ge m (p + 1) _ (by have := h1 0 (Nat.succ_pos m); rw [Nat.add_zero] at this; omega) fun i hi => by
    have := h1 (i + 1) (Nat.succ_lt_succ hi)
    rw [show p + (i + 1) = p + 1 + i from by omega] at this
    exact this
/-- the bytes of a token are of its sort -/
theorem p_in (h : p_st b n k < n) (i : Nat) (hi : p_st b n k + i < p_sp b n k) : p_so (b (p_st b n k + i)) = p_so (b (p_st b n k)) ∧ p_st b n k + i < n := by
  have e := p_sp_in h
  rw [e] at hi
  by_cases h0 : i = 0
  · subst h0
    exact ⟨rfl, h⟩
  · by_cases h3 : p_so (b (p_st b n k)) = 3
    · rw [p_en_s h3] at hi
      omega
    · rw [p_en_w rfl h3] at hi
      have h1 := p_run_in (b := b) (n := n) (t := p_so (b (p_st b n k))) (n - (p_st b n k + 1)) (p_st b n k + 1) (p_st b n k + i) (by omega) hi
      exact ⟨h1.2, h1.1⟩
theorem p_nm_r : -1 ≤ p_nm b n k := by
  unfold p_nm
  by_cases h : p_ki b n k = 2 ∧ p_sp b n k ≤ p_st b n k + 4
  · rw [if_pos h]
    have h1 : p_st b n k < n := p_ki_lt (by omega)
    have h2 := p_ki_in h1
    have := p_nu_ge (b := b) (p_sp b n k - p_st b n k) (p_st b n k) 0 (Int.le_refl _) fun i hi => by
      have h3 := (p_in h1 i (by omega)).1
      have h4 := p_so_d (b (p_st b n k + i))
      omega
    omega
  · rw [if_neg h]
    decide
theorem p_dk (hb : ∀ i, 0 ≤ b i ∧ b i ≤ 255) : (p_ki b n k = 0 ∧ p_va b n k = -1 ∧ p_wi b n k = -1 ∧ p_nm b n k = -1 ∧ p_sv b n k = -1) ∨ (p_ki b n k = 1 ∧ p_va b n k = p_wi b n k ∧ -1 ≤ p_wi b n k ∧ p_wi b n k ≤ 32 ∧ p_nm b n k = -1 ∧ p_sv b n k = -1) ∨ (p_ki b n k = 2 ∧ p_va b n k = p_nm b n k ∧ -1 ≤ p_nm b n k ∧ p_wi b n k = -1 ∧ p_sv b n k = -1) ∨ (p_ki b n k = 3 ∧ p_va b n k = p_sv b n k ∧ 0 ≤ p_sv b n k ∧ p_sv b n k ≤ 255 ∧ p_wi b n k = -1 ∧ p_nm b n k = -1) := by
  have hd := p_dj (n := n) (k := k) hb
  have hr := p_nm_r (b := b) (n := n) (k := k)
  rcases p_ki_r (b := b) (n := n) (k := k) with h | h | h | h
  · refine Or.inl ⟨h, ?_, by omega, by omega, by omega⟩
    unfold p_va
    rw [if_neg (by omega), if_neg (by omega)]
    omega
  · refine Or.inr (Or.inl ⟨h, ?_, by omega, by omega, by omega, by omega⟩)
    unfold p_va
    rw [if_pos h]
  · refine Or.inr (Or.inr (Or.inl ⟨h, ?_, by omega, by omega, by omega⟩))
    unfold p_va
    rw [if_neg (by omega), if_pos h]
  · refine Or.inr (Or.inr (Or.inr ⟨h, ?_, by omega, by omega, by omega, by omega⟩))
    unfold p_va
    rw [if_neg (by omega), if_neg (by omega)]
theorem qC.d (h : qC M o b n na) (k : Nat) : (p_ki b n k = 0 ∧ p_va b n k = -1 ∧ p_wi b n k = -1 ∧ p_nm b n k = -1 ∧ p_sv b n k = -1) ∨ (p_ki b n k = 1 ∧ p_va b n k = p_wi b n k ∧ -1 ≤ p_wi b n k ∧ p_wi b n k ≤ 32 ∧ p_nm b n k = -1 ∧ p_sv b n k = -1) ∨ (p_ki b n k = 2 ∧ p_va b n k = p_nm b n k ∧ -1 ≤ p_nm b n k ∧ p_wi b n k = -1 ∧ p_sv b n k = -1) ∨ (p_ki b n k = 3 ∧ p_va b n k = p_sv b n k ∧ 0 ≤ p_sv b n k ∧ p_sv b n k ≤ 255 ∧ p_wi b n k = -1 ∧ p_nm b n k = -1) := p_dk h.1.2.2.1
theorem qC.kn (h : qC M o b n na) (k : Nat) : p_ki b n k ≠ 0 → k < n ∧ n ≤ 400 := fun h1 => ⟨p_k_n (p_ki_lt h1), h.1.2.1⟩
/-- the views of the reader, behind what wrote nothing of them -/
theorem rv_9 {k : Nat} (I : tm_I tm_FT W0 x T0 M0 n0 T M nx) (ho : T0 o = some (0, 9, 0)) (hm : ∃ fs, M0 o = some (.inr (9, fs))) (hW : W0 (900 + k) = false) : rv M o k = rv M0 o k ∧ rr M o k = rr M0 o k := by
  obtain ⟨fs, hm⟩ := hm
  obtain ⟨fs1, e1, e2⟩ := I.2.2.2.2.2.2.1 o _ ho fs hm
  have e3 := e2 k hW
  refine ⟨?_, ?_⟩
  · unfold rv
    rw [e1, hm]
    simp only [e3]
  · unfold rr
    rw [e1, hm]
    simp only [e3]
def qK (k : Nat) : Bool := (Nat.ble 3 k && Nat.ble k 7) || Nat.beq k 17
theorem tm_9 (h0 : tm_W tm_FT T0 M0) {k : Nat} (ho : T0 o = some (0, 9, 0)) (hk : qK k = true) : ∃ bb : Nat, tm_at M0 o 9 k (.ref bb) ∧ T0 bb = some (1, 8 * (950 + k), 400) := by
  obtain ⟨fs, hm, hl, hfs⟩ := h0 o _ ho
  have key : ∀ f : tm_F, (tm_FT 9)[k]? = some f → f = (2, 1, 8 * (950 + k), 400) → ∃ bb : Nat, tm_at M0 o 9 k (.ref bb) ∧ T0 bb = some (1, 8 * (950 + k), 400) := by
    intro f hf e
    subst e
    obtain ⟨v, e1, e2⟩ := hfs k _ hf
    obtain ⟨bb, rfl, e3⟩ := e2
    exact ⟨bb, ⟨fs, hm, e1⟩, e3⟩
  unfold qK at hk
  have : k = 3 ∨ k = 4 ∨ k = 5 ∨ k = 6 ∨ k = 7 ∨ k = 17 := by
    simp only [Bool.or_eq_true, Bool.and_eq_true, Nat.ble_eq, Nat.beq_eq] at hk
    omega
  rcases this with rfl | rfl | rfl | rfl | rfl | rfl <;> exact key _ rfl rfl
theorem ra_9 {k : Nat} (h0 : tm_W tm_FT T0 M0) (I : tm_I tm_FT W0 x T0 M0 n0 T M nx) (ho : T0 o = some (0, 9, 0)) (hk : qK k = true) (hW : W0 (900 + k) = false) (hW2 : W0 (950 + k) = false) (i : Nat) : ra M o k i = ra M0 o k i := by
  obtain ⟨fs, hm, -⟩ := h0 o _ ho
  obtain ⟨bb, h1, h2⟩ := tm_9 h0 ho hk
  have e5 := (rv_9 I ho ⟨fs, hm⟩ hW).2
  have e6 : M bb = M0 bb := I.2.2.2.2.2.2.1 bb _ h2 (by show W0 (8 * (950 + k) / 8) = false; rw [show 8 * (950 + k) / 8 = 950 + k from by omega]; exact hW2)
  unfold ra
  rw [e5, tm_rr h1, e6]
theorem qB.keep (h : qB M0 o b n) (h0 : tm_W tm_FT T0 M0) (I : tm_I tm_FT W0 x T0 M0 n0 T M nx) (ho : T0 o = some (0, 9, 0)) (hW : W0 900 = false) (hW1 : W0 903 = false) (hW2 : W0 953 = false) : qB M o b n := by
  obtain ⟨h1, h2, h3, h4⟩ := h
  obtain ⟨fs, hm, -⟩ := h0 o _ ho
  exact ⟨(rv_9 I ho ⟨fs, hm⟩ hW).1.trans h1, h2, h3, fun i hi => (ra_9 h0 I ho rfl hW1 hW2 i).trans (h4 i hi)⟩
theorem qR.keep (h : qR M0 o b n tc) (h0 : tm_W tm_FT T0 M0) (I : tm_I tm_FT W0 x T0 M0 n0 T M nx) (ho : T0 o = some (0, 9, 0)) (hW : W0 908 = false) (hW1 : ∀ k, 4 ≤ k → k ≤ 7 → W0 (900 + k) = false ∧ W0 (950 + k) = false) : qR M o b n tc := by
  obtain ⟨h1, h2, h3⟩ := h
  obtain ⟨fs, hm, -⟩ := h0 o _ ho
  refine ⟨(rv_9 I ho ⟨fs, hm⟩ hW).1.trans h1, h2, fun k hk => ?_⟩
  rw [ra_9 h0 I ho (k := 4) rfl (hW1 4 (by decide) (by decide)).1 (hW1 4 (by decide) (by decide)).2, ra_9 h0 I ho (k := 5) rfl (hW1 5 (by decide) (by decide)).1 (hW1 5 (by decide) (by decide)).2, ra_9 h0 I ho (k := 6) rfl (hW1 6 (by decide) (by decide)).1 (hW1 6 (by decide) (by decide)).2, ra_9 h0 I ho (k := 7) rfl (hW1 7 (by decide) (by decide)).1 (hW1 7 (by decide) (by decide)).2]
  exact h3 k hk
def qW (k : Nat) : Bool := Nat.beq k 900 || Nat.beq k 953 || Nat.beq k 915 || (Nat.ble 903 k && Nat.ble k 908) || (Nat.ble 954 k && Nat.ble k 957)
theorem qC.keep (h : qC M0 o b n na) (h0 : tm_W tm_FT T0 M0) (I : tm_I tm_FT W0 x T0 M0 n0 T M nx) (ho : T0 o = some (0, 9, 0)) (hW : ∀ k, qW k = true → W0 k = false) : qC M o b n na := by
  obtain ⟨h1, h2, h3, tc, h4, h5⟩ := h
  obtain ⟨fs, hm, -⟩ := h0 o _ ho
  refine ⟨h1.keep h0 I ho (hW _ rfl) (hW _ rfl) (hW _ rfl), (rv_9 I ho ⟨fs, hm⟩ (hW 915 rfl)).1.trans h2, h3, tc, h4.keep h0 I ho (hW _ rfl) (fun k h6 h7 => ?_), h5⟩
  have : k = 4 ∨ k = 5 ∨ k = 6 ∨ k = 7 := by omega
  rcases this with rfl | rfl | rfl | rfl <;> exact ⟨hW _ rfl, hW _ rfl⟩
theorem qW_of {W0 : Nat → Bool} (h : ((List.range 60).all fun k => !(qW (900 + k)) || !(W0 (900 + k))) = true) : ∀ k, qW k = true → W0 k = false := by
  intro k hk
  have hr : 900 ≤ k ∧ k < 960 := by
    unfold qW at hk
    simp only [Bool.or_eq_true, Bool.and_eq_true, Nat.ble_eq, Nat.beq_eq] at hk
    omega
  have h1 := List.all_eq_true.mp h (k - 900) (List.mem_range.mpr (by omega))
  rw [show 900 + (k - 900) = k from by omega, hk] at h1
  simpa using h1
end QD
/-- it will stand at token s.2.2 next -/
def qA (M : mj_M) (o : Nat) (s : p_S) : Prop := ∃ vf vp va : Int32, tm_at M o 9 1 (.int vf) ∧ tm_at M o 9 2 (.int vp) ∧ tm_at M o 9 9 (.int va) ∧ vf.toInt = s.1 ∧ (s.1 ≠ 0 → vp.toInt = (s.2.1 : Int)) ∧ (s.1 = 0 → va.toInt + 1 = (s.2.2 : Int) ∧ vp.toInt = -1)
section QA
variable {M M0 M1 : mj_M} {o n k tc : Nat} {b : Nat → Int} {na e : Int} {s s9 : p_S} {vf vp va vk vs ve vv : Int32}
theorem qS.a (h : qS M o b n s) : qA M o (p_nx s) := by
  obtain ⟨vf, vp, va, vk, vs, ve, vv, q1, q2, q9, -, -, -, -, h1, h2, h3⟩ := h
  exact ⟨vf, vp, va, q1, q2, q9, h1, h2, fun w => ⟨by have := (h3 w).1; show va.toInt + 1 = ((s.2.2 + 1 : Nat) : Int); omega, (h3 w).2.2.2.2.2⟩⟩
theorem qS.adv (hC : qC M o b n na) (h8 : rv M o 8 = (tc : Int)) (q1 : tm_at M o 9 1 (.int vf)) (q2 : tm_at M o 9 2 (.int vp)) (q9 : tm_at M o 9 9 (.int va)) (q10 : tm_at M o 9 10 (.int vk)) (q11 : tm_at M o 9 11 (.int vs)) (q12 : tm_at M o 9 12 (.int ve)) (q13 : tm_at M o 9 13 (.int vv)) (h1 : vf.toInt = s.1) (h2 : s.1 ≠ 0 → vp.toInt = (s.2.1 : Int)) (h3 : s.1 = 0 → vp.toInt = -1 ∧ va.toInt = (s.2.2 : Int) ∧ ((s.2.2 < tc ∧ vk.toInt = ra M o 4 s.2.2 ∧ vs.toInt = ra M o 5 s.2.2 ∧ ve.toInt = ra M o 6 s.2.2 ∧ vv.toInt = ra M o 7 s.2.2) ∨ (¬ s.2.2 < tc ∧ vk.toInt = 0 ∧ vs.toInt = rv M o 0 ∧ ve.toInt = rv M o 0 ∧ vv.toInt = -1))) : qS M o b n s := by
  refine ⟨vf, vp, va, vk, vs, ve, vv, q1, q2, q9, q10, q11, q12, q13, h1, h2, fun w => ?_⟩
  obtain ⟨hm, h4, h5⟩ := h3 w
  obtain ⟨c1, c2, c3, tc9, ⟨r1, r2, r3⟩, r4⟩ := hC
  have e9 : tc9 = tc := by omega
  subst e9
  refine ⟨h4, ?_⟩
  rcases h5 with ⟨h5, a1, a2, a3, a4⟩ | ⟨h5, a1, a2, a3, a4⟩
  · obtain ⟨b1, b2, b3, b4, b5⟩ := r3 _ h5
    exact ⟨a1.trans b2, a2.trans b3, a3.trans b4, a4.trans b5, hm⟩
  · have z1 := p_st_over r4 s.2.2 (by omega)
    have z2 : p_ki b n s.2.2 = 0 := if_neg (by omega)
    have z3 : p_sp b n s.2.2 = n := p_sp_ov (by omega)
    have z4 : p_sv b n s.2.2 = -1 := if_neg (by omega)
    have z5 : p_va b n s.2.2 = -1 := by
      unfold p_va
      rw [if_neg (by omega), if_neg (by omega)]
      exact z4
    have z6 := c1.1
    exact ⟨by omega, by omega, by omega, by omega, hm⟩
/-- a fault is told -/
theorem q_fl (h : p_fl b n e s = s9) (hw : s.1 = 0) (he : e ≠ 0) : s9.1 = e ∧ s9.2.1 = p_st b n s.2.2 ∧ s9.1 ≠ 0 := by
  unfold p_fl at h
  rw [if_pos hw] at h
  subst h
  exact ⟨rfl, rfl, he⟩
end QA
section Q9
variable {g : mj_G} {l : Launch} {y : mj_Y} {d pc : Nat} {lv : List (Nat × Value)} {st : List Value} {M M0 : mj_M} {nx n0 kc ks x : Nat} {Q : Option Value → mj_M → Nat → Prop} {W : Nat → Bool} {T T0 : tm_H}
theorem tr_iald9 {o k a e N : Nat} {i : Int32} (I : tm_I tm_FT W x T0 M0 n0 T M nx) (hq : tm_at M o 9 k (.ref a)) (ta : T a = some (1, e, N)) (he : e % 8 = 0) (hd : decode y.2.1 pc = .ok (.iaload, 1)) (hin : vp_in i N) (kk : ∀ v : Int32, v.toInt = ra M o k i.toNatClampNeg → mj_V g l y d (pc + 1) lv (.int v :: st) M nx kc ks Q) : mj_V g l y d pc lv (.int i :: .ref a :: st) M nx kc ks Q := by
  obtain ⟨f, hm⟩ := tm_arrI I ta (by omega)
  have hm0 := hm
  rw [he] at hm
  exact mv_iald hd hm hin rfl (kk _ (by rw [ra_of hq hm0]; rfl))
end Q9
section Q8
variable {g : mj_G} {l : Launch} {y : mj_Y} {d pc : Nat} {lv : List (Nat × Value)} {st : List Value} {M M0 M1 : mj_M} {nx n0 kc ks x o n tc : Nat} {b : Nat → Int} {Q : Option Value → mj_M → Nat → Prop} {W : Nat → Bool} {T T0 : tm_H}
/-- a row of the reader is written -/
theorem tr_iast9 {k a e N : Nat} {i v : Int32} (I : tm_I tm_FT W x T0 M0 n0 T M nx) (ho : T o = some (0, 9, 0)) (hk : qK k = true) (hq : tm_at M o 9 k (.ref a)) (ta : T a = some (1, e, N)) (he : e = 8 * (950 + k)) (hW : W (e / 8) = true ∨ n0 ≤ a) (hd : decode y.2.1 pc = .ok (.iastore, 1)) (hin : vp_in i N) (kk : ∀ M1, tm_I tm_FT W x T0 M0 n0 T M1 nx → (∀ (b c k : Nat) (w : Value), tm_at M b c k w → tm_at M1 b c k w) → (∀ j, ra M1 o k j = if j = i.toNatClampNeg then v.toInt else ra M o k j) → (∀ q, qK q = true → q ≠ k → ∀ j, ra M1 o q j = ra M o q j) → mj_V g l y d (pc + 1) lv st M1 nx kc ks Q) : mj_V g l y d pc lv (.int v :: .int i :: .ref a :: st) M nx kc ks Q := by
  obtain ⟨f, hm⟩ := tm_arrI I ta (by omega)
  have hm0 := hm
  have he8 : e % 8 = 0 := by omega
  rw [he8] at hm
  have hra : ∀ j, ra M o k j = (f j).toInt := fun j => by rw [ra_of hq hm0]; rfl
  refine mv_iast hd hm hin rfl (kk _ (I.ast tm_okF ta hW (tm_c1 (by omega) (by rw [mj_up_self, he8]))) (tm_at.ast hm0) (fun j => ?_) (fun q hq4 hqk j => ?_))
  · have h1 := tm_at.ast (c9 := .inl (0, N, .inl (upd f i.toNatClampNeg v))) hm0 _ _ _ _ hq
    rw [ra_of h1 (mj_up_self _ _ _) j, hra]
    show (upd f i.toNatClampNeg v j).toInt = _
    unfold upd
    by_cases h : j = i.toNatClampNeg
    · rw [if_pos h, if_pos h]
    · rw [if_neg h, if_neg h]
  · obtain ⟨bb, h1, h2⟩ := tm_9 I.1 ho hq4
    have hba : bb ≠ a := fun h => by
      subst h
      rw [ta] at h2
      cases h2
      omega
    have h3 := tm_at.ast (c9 := .inl (0, N, .inl (upd f i.toNatClampNeg v))) hm0 _ _ _ _ h1
    unfold ra
    rw [tm_rr h3, tm_rr h1, mj_up_ne _ _ hba]
/-- a field of the reader is written: its rows are as they were -/
theorem ra_put9 {k k9 : Nat} (I : tm_I tm_FT W x T0 M0 n0 T M nx) (ho : T o = some (0, 9, 0)) (hk : qK k = true) (hn : k ≠ k9) (K : ∀ (b c k : Nat) (w : Value), (c == 9 && k == k9) = false → tm_at M b c k w → tm_at M1 b c k w) (KM : ∀ b, b ≠ o → M1 b = M b) (i : Nat) : ra M1 o k i = ra M o k i := by
  obtain ⟨bb, h1, h2⟩ := tm_9 I.1 ho hk
  have h3 := K _ 9 k _ (by simp [hn]) h1
  have hbo : bb ≠ o := fun h => by
    subst h
    cases ho.symm.trans h2
  unfold ra
  rw [tm_rr h3, tm_rr h1, KM _ hbo]
theorem qR.put9 {k9 : Nat} (h : qR M o b n tc) (I : tm_I tm_FT W x T0 M0 n0 T M nx) (ho : T o = some (0, 9, 0)) (hn : k9 ≠ 8 ∧ k9 ≠ 4 ∧ k9 ≠ 5 ∧ k9 ≠ 6 ∧ k9 ≠ 7) (K : ∀ (b c k : Nat) (w : Value), (c == 9 && k == k9) = false → tm_at M b c k w → tm_at M1 b c k w) (KM : ∀ b, b ≠ o → M1 b = M b) : qR M1 o b n tc := by
  obtain ⟨h1, h2, h3⟩ := h
  obtain ⟨v8, q8⟩ := tm_atI I ho (k := 8) rfl
  have q9 := K _ 9 8 _ (by simp [Ne.symm hn.1]) q8
  refine ⟨by rw [tm_rv q9, ← tm_rv q8]; exact h1, h2, fun k hk => ?_⟩
  rw [ra_put9 I ho (k := 4) rfl (Ne.symm hn.2.1) K KM, ra_put9 I ho (k := 5) rfl (Ne.symm hn.2.2.1) K KM, ra_put9 I ho (k := 6) rfl (Ne.symm hn.2.2.2.1) K KM, ra_put9 I ho (k := 7) rfl (Ne.symm hn.2.2.2.2) K KM]
  exact h3 k hk
/-- a token more -/
theorem qR.more {i : Int32} (h : qR M0 o b n tc) (hs : p_st b n tc < n) (h8 : rv M o 8 = (tc : Int) + 1) (hi : i.toNatClampNeg = tc) {a1 a2 a3 a4 : Int} (r4 : ∀ j, ra M o 4 j = if j = i.toNatClampNeg then a1 else ra M0 o 4 j) (r5 : ∀ j, ra M o 5 j = if j = i.toNatClampNeg then a2 else ra M0 o 5 j) (r6 : ∀ j, ra M o 6 j = if j = i.toNatClampNeg then a3 else ra M0 o 6 j) (r7 : ∀ j, ra M o 7 j = if j = i.toNatClampNeg then a4 else ra M0 o 7 j) (e1 : a1 = p_ki b n tc) (e2 : a2 = (p_st b n tc : Int)) (e3 : a3 = (p_sp b n tc : Int)) (e4 : a4 = p_va b n tc) : qR M o b n (tc + 1) := by
  obtain ⟨h1, h2, h3⟩ := h
  have h9 := p_tp_k tc hs
  refine ⟨by rw [h8]; rfl, by omega, fun k hk => ?_⟩
  rw [r4, r5, r6, r7, hi]
  by_cases e : k = tc
  · subst e
    rw [if_pos rfl, if_pos rfl, if_pos rfl, if_pos rfl]
    exact ⟨hs, e1, e2, e3, e4⟩
  · rw [if_neg e, if_neg e, if_neg e, if_neg e]
    exact h3 k (by omega)
end Q8
/-! HOW THE DESK CUTS ITS TOKENS: words looked up in a text of words -/
/-- the letters of a String constant -/
def p_C (i k : Nat) : Int := (mj_ch i k).toInt
/-- m letters of C from f on are those from p on -/
def p_cm (b C : Nat → Int) : Nat → Nat → Nat → Bool
  | 0, _, _ => true
  | m + 1, f, p => decide (C f = b p) && p_cm b C m (f + 1) (p + 1)
/-- looked up, from letter i of L on; a word begins at first -/
def p_lx (b C : Nat → Int) (L s e : Nat) : Nat → Nat → Nat → Int → Int
  | 0, _, _, _ => -1
  | f + 1, i, p, x => if i = L ∨ C i = 32 then (if i - p = e - s ∧ p_cm b C (i - p) p s = true then x else p_lx b C L s e f (i + 1) (i + 1) (x + 1)) else p_lx b C L s e f (i + 1) p x
def p_ck (C : Nat → Int) : Nat → List Int → Bool
  | _, [] => true
  | p, c :: r => decide (C p = c) && (decide (c ≠ 32) && p_ck C (p + 1) r)
def p_sl (C : Nat → Int) (L : Nat) : Nat → List (List Int) → Bool
  | _, [] => false
  | p, [w] => p_ck C p w && decide (p + w.length = L)
  | p, w :: r => p_ck C p w && (decide (C (p + w.length) = 32) && p_sl C L (p + w.length + 1) r)
section PX9
variable {b C : Nat → Int} {L s e : Nat}
theorem p_cm_ck : ∀ (w : List Int) (p s : Nat), p_ck C p w = true → p_cm b C w.length p s = p_mb b s w
  | [], _, _, _ => rfl
  | c :: r, p, s, h => by
    unfold p_ck at h
    rw [Bool.and_eq_true, Bool.and_eq_true] at h
    have h1 := of_decide_eq_true h.1
    show (decide (C p = b s) && p_cm b C r.length (p + 1) (s + 1)) = (decide (b s = c) && p_mb b (s + 1) r)
    rw [p_cm_ck r (p + 1) (s + 1) h.2.2, h1]
    congr 1
    exact decide_eq_decide.mpr ⟨Eq.symm, Eq.symm⟩
theorem p_ck_ne : ∀ (w : List Int) (p j : Nat), p_ck C p w = true → j < w.length → C (p + j) ≠ 32
  | [], _, _, _, h => by simp at h
  | c :: r, p, 0, h, _ => by
    unfold p_ck at h
    rw [Bool.and_eq_true, Bool.and_eq_true] at h
    rw [Nat.add_zero, of_decide_eq_true h.1]
    exact of_decide_eq_true h.2.1
  | c :: r, p, j + 1, h, hj => by
    unfold p_ck at h
    rw [Bool.and_eq_true, Bool.and_eq_true] at h
    rw [show p + (j + 1) = p + 1 + j from by omega]
    exact p_ck_ne r (p + 1) j h.2.2 (by simpa using hj)
/-- one word of the text -/
theorem p_lx_word {w : List Int} {p : Nat} {x : Int} (hse : s ≤ e) (hw : p_ck C p w = true) (hend : p + w.length = L ∨ C (p + w.length) = 32) (hL : p + w.length ≤ L) : ∀ (d j : Nat), j + d = w.length → p_lx b C L s e (L + 1 - (p + j)) (p + j) p x = if p_eb b s e w = true then x else p_lx b C L s e (L + 1 - (p + w.length + 1)) (p + w.length + 1) (p + w.length + 1) (x + 1)
  | 0, j, hj => by
    have e1 : j = w.length := by omega
    subst e1
    rw [show L + 1 - (p + w.length) = (L + 1 - (p + w.length + 1)) + 1 from by omega]
    show (if p + w.length = L ∨ C (p + w.length) = 32 then (if p + w.length - p = e - s ∧ p_cm b C (p + w.length - p) p s = true then x else p_lx b C L s e (L + 1 - (p + w.length + 1)) (p + w.length + 1) (p + w.length + 1) (x + 1)) else _) = _
    rw [if_pos hend, show p + w.length - p = w.length from by omega, p_cm_ck w p s hw]
    have e2 : (w.length = e - s ∧ p_mb b s w = true) ↔ p_eb b s e w = true := by
      unfold p_eb
      rw [Bool.and_eq_true, decide_eq_true_eq]
      constructor
      · rintro ⟨h1, h2⟩
        exact ⟨by omega, h2⟩
      · rintro ⟨h1, h2⟩
        exact ⟨by omega, h2⟩
    by_cases h : p_eb b s e w = true
    · rw [if_pos h, if_pos (e2.mpr h)]
    · rw [if_neg h, if_neg (fun h9 => h (e2.mp h9))]
  | d + 1, j, hj => by
    rw [show L + 1 - (p + j) = (L + 1 - (p + (j + 1))) + 1 from by omega]
    show (if p + j = L ∨ C (p + j) = 32 then _ else p_lx b C L s e (L + 1 - (p + (j + 1))) (p + j + 1) p x) = _
    rw [if_neg (fun h9 => by rcases h9 with h9 | h9; omega; exact p_ck_ne w p j hw (by omega) h9)]
    exact p_lx_word hse hw hend hL d (j + 1) (by omega)
theorem p_sl_le : ∀ (ws : List (List Int)) (p : Nat), p_sl C L p ws = true → p ≤ L
  | [], _, h => by cases h
  | [w], p, h => by
    have h : (p_ck C p w && decide (p + w.length = L)) = true := h
    rw [Bool.and_eq_true] at h
    have h2 := of_decide_eq_true h.2
    omega
  | w :: v :: r, p, h => by
    have h : (p_ck C p w && (decide (C (p + w.length) = 32) && p_sl C L (p + w.length + 1) (v :: r))) = true := h
    rw [Bool.and_eq_true, Bool.and_eq_true] at h
    have := p_sl_le (v :: r) (p + w.length + 1) h.2.2
    omega
/-- the whole text: which word it is -/
theorem p_lx_ix (hse : s ≤ e) : ∀ (ws : List (List Int)) (p : Nat) (x : Int), p_sl C L p ws = true → p_lx b C L s e (L + 1 - p) p p x = p_ix b s e ws x
  | [], _, _, h => by cases h
  | [w], p, x, h => by
    have h : (p_ck C p w && decide (p + w.length = L)) = true := h
    rw [Bool.and_eq_true] at h
    have h2 := of_decide_eq_true h.2
    have h3 := p_lx_word (b := b) (L := L) (p := p) (x := x) hse h.1 (Or.inl h2) (by omega) w.length 0 (Nat.zero_add _)
    rw [Nat.add_zero p] at h3
    rw [h3, show L + 1 - (p + w.length + 1) = 0 from by omega]
    rfl
  | w :: v :: r, p, x, h => by
    have h : (p_ck C p w && (decide (C (p + w.length) = 32) && p_sl C L (p + w.length + 1) (v :: r))) = true := h
    rw [Bool.and_eq_true, Bool.and_eq_true] at h
    have h2 := of_decide_eq_true h.2.1
    have h4 := p_sl_le (v :: r) (p + w.length + 1) h.2.2
    have h3 := p_lx_word (b := b) (L := L) (p := p) (x := x) hse h.1 (Or.inr h2) (by omega) w.length 0 (Nat.zero_add _)
    rw [Nat.add_zero p] at h3
    rw [h3, p_lx_ix hse (v :: r) (p + w.length + 1) (x + 1) h.2.2]
    rfl
theorem p_lx_0 (hse : s ≤ e) : p_lx b (p_C 0) 71 s e 72 0 0 0 = p_ix b s e (p_ws.take 13) 0 := p_lx_ix hse _ 0 0 (by decide +kernel)
theorem p_lx_1 (hse : s ≤ e) : p_lx b (p_C 1) 94 s e 95 0 0 0 = p_ix b s e (p_ws.drop 13) 0 := p_lx_ix hse _ 0 0 (by decide +kernel)
theorem p_ix_sh : ∀ (ws : List (List Int)) (i : Int), 0 ≤ i → p_ix b s e ws i = if p_ix b s e ws 0 = -1 then -1 else p_ix b s e ws 0 + i := by
  have key : ∀ (ws : List (List Int)) (i j : Int), 0 ≤ i → 0 ≤ j → p_ix b s e ws (i + j) = if p_ix b s e ws j = -1 then -1 else p_ix b s e ws j + i := by
    intro ws
    induction ws with
    | nil => exact fun i j _ _ => rfl
    | cons w r ih =>
      intro i j hi hj
      show (if p_eb b s e w = true then i + j else p_ix b s e r (i + j + 1)) = if (if p_eb b s e w = true then j else p_ix b s e r (j + 1)) = -1 then -1 else (if p_eb b s e w = true then j else p_ix b s e r (j + 1)) + i
      by_cases h : p_eb b s e w = true
      · rw [if_pos h, if_pos h, if_neg (by omega)]
        omega
      · rw [if_neg h, if_neg h, show i + j + 1 = i + (j + 1) from by omega, ih i (j + 1) hi (by omega)]
  intro ws i hi
  have := key ws i 0 hi (Int.le_refl 0)
  rwa [Int.add_zero] at this
theorem p_ix_app : ∀ (us ws : List (List Int)) (i : Int), 0 ≤ i → p_ix b s e (us ++ ws) i = if p_ix b s e us i = -1 then p_ix b s e ws (i + us.length) else p_ix b s e us i
  | [], ws, i, hi => by
    show p_ix b s e ws i = if (-1 : Int) = -1 then p_ix b s e ws (i + ((0 : Nat) : Int)) else _
    rw [if_pos rfl]
    congr 1
    omega
  | u :: us, ws, i, hi => by
    show (if p_eb b s e u = true then i else p_ix b s e (us ++ ws) (i + 1)) = if (if p_eb b s e u = true then i else p_ix b s e us (i + 1)) = -1 then p_ix b s e ws (i + ((us.length + 1 : Nat) : Int)) else (if p_eb b s e u = true then i else p_ix b s e us (i + 1))
    by_cases h : p_eb b s e u = true
    · rw [if_pos h, if_pos h, if_neg (by omega)]
    · rw [if_neg h, if_neg h, p_ix_app us ws (i + 1) (by omega), show i + 1 + ((us.length : Nat) : Int) = i + ((us.length + 1 : Nat) : Int) from by omega]
/-- the two texts of words are one -/
theorem p_ix_two : p_ix b s e p_ws 0 = if p_ix b s e (p_ws.take 13) 0 = -1 then (if p_ix b s e (p_ws.drop 13) 0 = -1 then -1 else p_ix b s e (p_ws.drop 13) 0 + 13) else p_ix b s e (p_ws.take 13) 0 := by
  have h := p_ix_app (b := b) (s := s) (e := e) (p_ws.take 13) (p_ws.drop 13) 0 (Int.le_refl 0)
  rw [List.take_append_drop] at h
  rw [h, show (0 : Int) + (((p_ws.take 13).length : Nat) : Int) = 13 from by decide, p_ix_sh (p_ws.drop 13) 13 (by decide)]
theorem p_cm_on {m f p : Nat} (h : C f = b p) : p_cm b C (m + 1) f p = p_cm b C m (f + 1) (p + 1) := by
  show (decide (C f = b p) && _) = _
  rw [decide_eq_true h, Bool.true_and]
theorem p_cm_no {m f p : Nat} (h : C f ≠ b p) : p_cm b C (m + 1) f p = false := by
  show (decide (C f = b p) && _) = _
  rw [decide_eq_false h, Bool.false_and]
theorem p_lx_no {f i p : Nat} {x : Int} (h : ¬ (i = L ∨ C i = 32)) : p_lx b C L s e (f + 1) i p x = p_lx b C L s e f (i + 1) p x := if_neg h
theorem p_lx_not {f i p : Nat} {x : Int} (h : i = L ∨ C i = 32) (h1 : ¬ (i - p = e - s ∧ p_cm b C (i - p) p s = true)) : p_lx b C L s e (f + 1) i p x = p_lx b C L s e f (i + 1) (i + 1) (x + 1) := (if_pos h).trans (if_neg h1)
theorem p_lx_yes {f i p : Nat} {x : Int} (h : i = L ∨ C i = 32) (h1 : i - p = e - s) (h2 : p_cm b C (i - p) p s = true) : p_lx b C L s e (f + 1) i p x = x := (if_pos h).trans (if_pos ⟨h1, h2⟩)
end PX9
section PV9
variable {b : Nat → Int} {n tc f t9 : Nat} {t : Int} {M : mj_M} {o : Nat}
theorem p_va_w (h : p_ki b n tc = 1) : p_va b n tc = p_ix b (p_st b n tc) (p_sp b n tc) p_ws 0 := by
  unfold p_va
  rw [if_pos h]
  unfold p_wi
  rw [if_pos h]
theorem p_va_n (h : p_ki b n tc = 2) : p_va b n tc = p_nm b n tc := by
  unfold p_va
  rw [if_neg (by omega), if_pos h]
theorem p_va_s (h : p_ki b n tc = 3) : p_va b n tc = b (p_st b n tc) := by
  unfold p_va
  rw [if_neg (by omega), if_neg (by omega)]
  unfold p_sv
  rw [if_pos h]
/-- a token, from where it begins to where it ends -/
theorem p_tok (hf : p_st b n tc = f) (hlt : f < n) (hs : p_so (b f) = t) (hto : t = 3 ∧ t9 = f + 1 ∨ t ≠ 3 ∧ p_rn b n t (f + 1) = t9) : p_ki b n tc = t ∧ p_sp b n tc = t9 := by
  subst hf
  refine ⟨(p_ki_in hlt).trans hs, ?_⟩
  rw [p_sp_in hlt]
  rcases hto with ⟨h1, h2⟩ | ⟨h1, h2⟩
  · rw [p_en_s (hs.trans h1), h2]
  · rw [p_en_w hs h1, h2]
theorem p_st_on (h : p_sp b n tc = t9) : p_rn b n 4 t9 = p_st b n (tc + 1) := by
  subst h
  rfl
theorem qR.nil (h : rv M o 8 = 0) : qR M o b n 0 := ⟨h, Nat.zero_le _, fun k hk => absurd hk (Nat.not_lt_zero _)⟩
end PV9
section PR9
variable {b : Nat → Int} {n c : Nat} {na : Int} {s : p_S} {i v : Int32}
/-- the numbers that a rule may have -/
theorem tm_rlv (h0 : 0 ≤ i.toInt) (h1 : i.toInt < 6) (h : mj_rl.getD i.toNatClampNeg .null = .int v) : v.toInt = p_lo (i.toInt + 13) := by
  have hn := mz_nat9 h0
  rcases (show i.toNatClampNeg = 0 ∨ i.toNatClampNeg = 1 ∨ i.toNatClampNeg = 2 ∨ i.toNatClampNeg = 3 ∨ i.toNatClampNeg = 4 ∨ i.toNatClampNeg = 5 by omega) with e | e | e | e | e | e <;> (rw [e] at h; cases h; rw [← hn, e]; decide)
theorem tm_rmv (h0 : 0 ≤ i.toInt) (h1 : i.toInt < 6) (h : mj_rm.getD i.toNatClampNeg .null = .int v) : v.toInt = p_hi (i.toInt + 13) := by
  have hn := mz_nat9 h0
  rcases (show i.toNatClampNeg = 0 ∨ i.toNatClampNeg = 1 ∨ i.toNatClampNeg = 2 ∨ i.toNatClampNeg = 3 ∨ i.toNatClampNeg = 4 ∨ i.toNatClampNeg = 5 by omega) with e | e | e | e | e | e <;> (rw [e] at h; cases h; rw [← hn, e]; decide)
theorem p_rul_c (h : (p_rul b n na c s).1 = 0) : s.1 = 0 ∧ c < 20 ∧ p_ki b n s.2.2 ≠ 0 := by
  unfold p_rul at h
  by_cases h0 : s.1 = 0
  · rw [if_pos h0] at h
    have hfl : ∀ e : Int, e ≠ 0 → (p_fl b n e s).1 ≠ 0 := fun e he => by
      unfold p_fl
      rw [if_pos h0]
      exact he
    by_cases h1 : (13 ≤ p_wi b n s.2.2 ∧ p_wi b n s.2.2 ≤ 18) ∨ p_wi b n s.2.2 = 23
    · rw [if_pos h1] at h
      by_cases h2 : 20 ≤ c
      · rw [if_pos h2] at h
        exact absurd h (hfl 4 (by decide))
      · refine ⟨h0, by omega, fun h3 => ?_⟩
        have h4 : p_wi b n s.2.2 = -1 := by
          unfold p_wi
          rw [if_neg (by omega)]
        omega
    · rw [if_neg h1] at h
      exact absurd h (hfl 1 (by decide))
  · rw [if_neg h0] at h
    exact absurd h h0
end PR9
/-! NAMES AS NUMBERS: the desk holds a name as five bits a letter -/
def p_wn (b : Nat → Int) : Nat → Nat → Int → Int
  | 0, _, v => v
  | m + 1, s, v => p_wn b m (s + 1) (32 * v + (b s - 96))
/-- letters, from the one to ahead of the other -/
def p_lt (b : Nat → Int) (q : Nat × Nat) : Prop := q.1 ≤ q.2 ∧ ∀ i, q.1 ≤ i → i < q.2 → 97 ≤ b i ∧ b i ≤ 122
/-- whether one of the names has this number -/
def p_hw (b : Nat → Int) : List (Nat × Nat) → Int → Int
  | [], _ => 0
  | q :: r, z => if p_wn b (q.2 - q.1) q.1 0 = z then 1 else p_hw b r z
section PWN
variable {b : Nat → Int}
theorem p_wn_out : ∀ (m s : Nat) (v : Int), p_wn b (m + 1) s v = 32 * p_wn b m s v + (b (s + m) - 96)
  | 0, _, _ => rfl
  | m + 1, s, v => by
    show p_wn b (m + 1) (s + 1) (32 * v + (b s - 96)) = 32 * p_wn b m (s + 1) (32 * v + (b s - 96)) + _
    rw [p_wn_out m (s + 1), show s + 1 + m = s + (m + 1) from by omega]
theorem p_wn_ge : ∀ (m s : Nat), (∀ i, i < m → 97 ≤ b (s + i)) → 0 ≤ p_wn b m s 0
  | 0, _, _ => Int.le_refl 0
  | m + 1, s, h => by
    have h1 := p_wn_ge m s (fun i hi => h i (by omega))
    have h2 := h m (by omega)
    rw [p_wn_out]
    omega
theorem p_wn_le : ∀ (m s : Nat) (k : Int), (∀ i, i < m → b (s + i) ≤ 122) → 0 ≤ k → (∀ j : Nat, j ≤ m → True) → p_wn b m s 0 ≤ 32 ^ m - 1
  | 0, _, _, _, _, _ => Int.le_refl _
  | m + 1, s, k, h, hk, _ => by
    have h1 := p_wn_le m s k (fun i hi => h i (by omega)) hk (fun _ _ => trivial)
    have h2 := h m (by omega)
    rw [p_wn_out, Int.pow_succ]
    omega
/-- names have eight letters at most -/
theorem p_wn_8 {m s : Nat} (h : ∀ i, i < m → 97 ≤ b (s + i) ∧ b (s + i) ≤ 122) (hm : m ≤ 8) : 0 ≤ p_wn b m s 0 ∧ p_wn b m s 0 ≤ 1099511627775 := by
  refine ⟨p_wn_ge m s (fun i hi => (h i hi).1), ?_⟩
  have h1 := p_wn_le m s 0 (fun i hi => (h i hi).2) (Int.le_refl 0) (fun _ _ => trivial)
  rcases (show m = 0 ∨ m = 1 ∨ m = 2 ∨ m = 3 ∨ m = 4 ∨ m = 5 ∨ m = 6 ∨ m = 7 ∨ m = 8 by omega) with rfl | rfl | rfl | rfl | rfl | rfl | rfl | rfl | rfl <;> omega
theorem p_wn_eq : ∀ (m k s t : Nat), (∀ i, i < m → 97 ≤ b (s + i) ∧ b (s + i) ≤ 122) → (∀ i, i < k → 97 ≤ b (t + i) ∧ b (t + i) ≤ 122) → p_wn b m s 0 = p_wn b k t 0 → m = k ∧ ∀ i, i < m → b (s + i) = b (t + i)
  | 0, 0, _, _, _, _, _ => ⟨rfl, fun i hi => absurd hi (Nat.not_lt_zero i)⟩
  | 0, k + 1, s, t, _, h2, h => by
    have h3 := p_wn_ge k t (fun i hi => (h2 i (by omega)).1)
    have h4 := h2 k (by omega)
    rw [p_wn_out] at h
    have h5 : p_wn b 0 s 0 = 0 := rfl
    omega
  | m + 1, 0, s, t, h1, _, h => by
    have h3 := p_wn_ge m s (fun i hi => (h1 i (by omega)).1)
    have h4 := h1 m (by omega)
    rw [p_wn_out] at h
    have h5 : p_wn b 0 t 0 = 0 := rfl
    omega
  | m + 1, k + 1, s, t, h1, h2, h => by
    rw [p_wn_out, p_wn_out] at h
    have a1 := h1 m (by omega)
    have a2 := h2 k (by omega)
    obtain ⟨e, h3⟩ := p_wn_eq m k s t (fun i hi => h1 i (by omega)) (fun i hi => h2 i (by omega)) (by omega)
    subst e
    refine ⟨rfl, fun i hi => ?_⟩
    by_cases hm : i = m
    · subst hm
      omega
    · exact h3 i (by omega)
theorem p_wn_cg : ∀ (m s t : Nat) (v : Int), (∀ i, i < m → b (s + i) = b (t + i)) → p_wn b m s v = p_wn b m t v
  | 0, _, _, _, _ => rfl
  | m + 1, s, t, v, h => by
    show p_wn b m (s + 1) (32 * v + (b s - 96)) = p_wn b m (t + 1) (32 * v + (b t - 96))
    have h0 := h 0 (Nat.succ_pos m)
    rw [Nat.add_zero, Nat.add_zero] at h0
    rw [h0]
    exact p_wn_cg m (s + 1) (t + 1) _ fun i hi => by
      have := h (i + 1) (by omega)
      rw [show s + 1 + i = s + (i + 1) from by omega, show t + 1 + i = t + (i + 1) from by omega]
      exact this
theorem p_sam_iff : ∀ (m s t : Nat), p_sam b m s t = true ↔ ∀ i, i < m → b (s + i) = b (t + i)
  | 0, _, _ => ⟨fun _ i hi => absurd hi (Nat.not_lt_zero i), fun _ => rfl⟩
  | m + 1, s, t => by
    rw [p_sam_out, Bool.and_eq_true, decide_eq_true_eq, p_sam_iff m s t]
    constructor
    · rintro ⟨h1, h2⟩ i hi
      by_cases e : i = m
      · subst e
        exact h2
      · exact h1 i (by omega)
    · intro h
      exact ⟨fun i hi => h i (by omega), h m (by omega)⟩
theorem p_sm_wn {q : Nat × Nat} {s e : Nat} (h : p_lt b q) (h1 : p_lt b (s, e)) : p_sm b q s e = if p_wn b (q.2 - q.1) q.1 0 = p_wn b (e - s) s 0 then 1 else 0 := by
  have hs : s ≤ e := h1.1
  have hl : ∀ i, s ≤ i → i < e → 97 ≤ b i ∧ b i ≤ 122 := h1.2
  unfold p_sm
  by_cases h9 : p_wn b (q.2 - q.1) q.1 0 = p_wn b (e - s) s 0
  · rw [if_pos h9]
    obtain ⟨e1, e2⟩ := p_wn_eq _ _ _ _ (fun i hi => h.2 _ (by omega) (by omega)) (fun i hi => hl _ (by omega) (by omega)) h9
    exact if_pos ⟨e1, (p_sam_iff _ _ _).mpr (fun i hi => e2 i (by omega))⟩
  · rw [if_neg h9]
    refine if_neg (fun h8 => h9 ?_)
    rw [h8.1]
    exact p_wn_cg _ _ _ _ ((p_sam_iff _ _ _).mp h8.2)
theorem p_hw_hs {s e : Nat} (h1 : p_lt b (s, e)) : ∀ (N : List (Nat × Nat)), (∀ q ∈ N, p_lt b q) → p_hw b N (p_wn b (e - s) s 0) = p_hs b N s e
  | [], _ => rfl
  | q :: r, h => by
    show (if p_wn b (q.2 - q.1) q.1 0 = p_wn b (e - s) s 0 then (1 : Int) else p_hw b r (p_wn b (e - s) s 0)) = if p_sm b q s e = 1 then 1 else p_hs b r s e
    rw [p_hw_hs h1 r (fun q hq => h q (List.mem_cons_of_mem _ hq)), p_sm_wn (h q List.mem_cons_self) h1]
    by_cases h9 : p_wn b (q.2 - q.1) q.1 0 = p_wn b (e - s) s 0
    · rw [if_pos h9, if_pos h9, if_pos rfl]
    · rw [if_neg h9, if_neg h9, if_neg (by decide)]
theorem p_lt_tok {n k : Nat} (h : p_ki b n k = 1) : p_lt b (p_st b n k, p_sp b n k) := by
  have h1 : p_st b n k < n := p_ki_lt (by omega)
  have h2 := p_ki_in h1
  refine ⟨Nat.le_of_lt (p_sp_gt h1).1, fun i h3 h4 => ?_⟩
  have h3 : p_st b n k ≤ i := h3
  have h4 : i < p_sp b n k := h4
  have h5 := (p_in h1 (i - p_st b n k) (by omega)).1
  rw [show p_st b n k + (i - p_st b n k) = i from by omega] at h5
  have := p_so_d (b i)
  omega
theorem p_hw_dr {N : List (Nat × Nat)} {i : Nat} {q : Nat × Nat} {z : Int} (h : N[i]? = some q) : p_hw b (N.drop i) z = if p_wn b (q.2 - q.1) q.1 0 = z then 1 else p_hw b (N.drop (i + 1)) z := by
  have hi : i < N.length := (List.getElem?_eq_some_iff.mp h).1
  have h2 : N[i] = q := (List.getElem?_eq_some_iff.mp h).2
  rw [List.drop_eq_getElem_cons hi, h2]
  rfl
end PWN
/-- the names of a fund's ends, as far as they are told -/
def qE (M : mj_M) (e : Nat) (b : Nat → Int) (N : List (Nat × Nat)) : Prop := (∃ k : Int32, tm_at M e 0 2 (.int k) ∧ k.toInt = (N.length : Int)) ∧ (∀ q ∈ N, p_lt b q) ∧ ∀ (i : Nat) (q : Nat × Nat), N[i]? = some q → ∃ (bi xi : Nat) (nv : Int64), tm_ge M e i bi ∧ tm_at M bi 3 0 (.ref xi) ∧ tm_at M xi 4 0 (.long nv) ∧ nv.toInt = p_wn b (q.2 - q.1) q.1 0
section QE
variable {M M0 : mj_M} {o e x n0 nx : Nat} {b : Nat → Int} {W0 : Nat → Bool} {T T0 : tm_H} {N : List (Nat × Nat)} {q : Nat × Nat}
theorem tm_tx {b1 x1 : Nat} (h0 : tm_W tm_FT T M) (tb : T b1 = some (0, 3, 0)) (h : tm_at M b1 3 0 (.ref x1)) : T x1 = some (0, 4, 0) := by
  obtain ⟨fs, hm, hl, hfs⟩ := h0 b1 _ tb
  obtain ⟨v, e1, e2⟩ := hfs 0 (2, 0, 4, 0) rfl
  obtain ⟨fs1, e3, e4⟩ := h
  cases hm.symm.trans e3
  cases e4.symm.trans e1
  obtain ⟨b9, e5, e6⟩ := e2
  cases e5
  exact e6
theorem qE.keep (h : qE M0 e b N) (h0 : tm_W tm_FT T0 M0) (I : tm_I tm_FT W0 x T0 M0 n0 T M nx) (he : T0 e = some (3, 3, o)) (hW : W0 5003 = false) (hW1 : W0 300 = false) (hW2 : W0 400 = false) : qE M e b N := by
  obtain ⟨⟨k, h1, h2⟩, hl, h3⟩ := h
  refine ⟨⟨k, I.keepL he hW h1, h2⟩, hl, fun i q hq => ?_⟩
  obtain ⟨bi, xi, nv, g1, g2, g3, g4⟩ := h3 i q hq
  obtain ⟨m, k2, e2, N2, f, hls⟩ := h0 e _ he
  have tb := (tm_ge.el hls g1).2.2
  exact ⟨bi, xi, nv, tm_I.keepG h0 I he hW g1, I.keep tb hW1 g2, I.keep (tm_tx h0 tb g2) hW2 g3, g4⟩
theorem qE.nil (h : tm_at M e 0 2 (.int 0)) : qE M e b [] := ⟨⟨0, h, rfl⟩, fun q hq => absurd hq List.not_mem_nil, fun i q hq => by simp at hq⟩
theorem qE.k (h : qE M e b N) {k : Int32} (hk : tm_at M e 0 2 (.int k)) : k.toInt = (N.length : Int) := by
  obtain ⟨⟨k9, h1, h2⟩, -⟩ := h
  rw [tm_at.fnI hk h1]
  exact h2
/-- the end at i -/
theorem qE.el (h : qE M e b N) (h0 : tm_W tm_FT T M) {m k : Int32} {e9 N9 b1 : Nat} {f : Nat → Option Nat} (hls : tm_ls T M e 3 m k e9 N9 f) {i : Nat} (hi : i < N.length) (hf : f i = some b1) : ∃ (x : Nat) (nv : Int64) (q : Nat × Nat), N[i]? = some q ∧ tm_at M b1 3 0 (.ref x) ∧ T x = some (0, 4, 0) ∧ tm_at M x 4 0 (.long nv) ∧ nv.toInt = p_wn b (q.2 - q.1) q.1 0 := by
  have hq : N[i]? = some N[i] := List.getElem?_eq_getElem hi
  obtain ⟨bi, xi, nv, g1, g2, g3, g4⟩ := h.2.2 i _ hq
  obtain ⟨-, hf1, tb⟩ := tm_ge.el hls g1
  cases hf.symm.trans hf1
  exact ⟨xi, nv, _, hq, g2, tm_tx h0 tb g2, g3, g4⟩
/-- one end more -/
theorem qE.add (h : qE M0 e b N) (h0 : tm_W tm_FT T0 M0) (I : tm_I tm_FT W0 x T0 M0 n0 T M nx) (he : T0 e = some (3, 3, o)) (hW1 : W0 300 = false) (hW2 : W0 400 = false) {k : Int32} (hk : tm_at M0 e 0 2 (.int k)) (hl : tm_at M e 0 2 (.int (k + 1))) (hk9 : k.toInt ≤ 72) (KG : ∀ i b1, tm_ge M0 e i b1 → tm_ge M e i b1) {bn xn : Nat} {nv : Int64} (gn : tm_ge M e k.toNatClampNeg bn) (tb : T0 bn = some (0, 3, 0)) (q1 : tm_at M0 bn 3 0 (.ref xn)) (q2 : tm_at M0 xn 4 0 (.long nv)) (hn : nv.toInt = p_wn b (q.2 - q.1) q.1 0) (hq : p_lt b q) : qE M e b (N ++ [q]) := by
  have hkN := h.k hk
  obtain ⟨m0, k0, e0, N0, f0, hls0⟩ := h0 e _ he
  have tx := tm_tx h0 tb q1
  have hk0 := mz_nat9 (i := k) (by omega)
  have hk1 : (k + 1 : Int32).toInt = k.toInt + 1 := mz_addn 1 1 (by decide) (by omega) (by omega)
  refine ⟨⟨k + 1, hl, by rw [List.length_append, hk1, hkN]; rfl⟩, fun z hz => ?_, fun i z hz => ?_⟩
  · rcases List.mem_append.mp hz with hz | hz
    · exact h.2.1 z hz
    · rw [List.mem_singleton.mp hz]
      exact hq
  · by_cases hi : i < N.length
    · rw [List.getElem?_append_left hi] at hz
      obtain ⟨bi, xi, nv9, g1, g2, g3, g4⟩ := h.2.2 i z hz
      have tb9 := (tm_ge.el hls0 g1).2.2
      exact ⟨bi, xi, nv9, KG _ _ g1, I.keep tb9 hW1 g2, I.keep (tm_tx h0 tb9 g2) hW2 g3, g4⟩
    · rw [List.getElem?_append_right (by omega)] at hz
      have hi2 : i = N.length := by
        have := (List.getElem?_eq_some_iff.mp hz).1
        simp at this
        omega
      subst hi2
      rw [Nat.sub_self] at hz
      cases hz
      have e9 : k.toNatClampNeg = N.length := by omega
      rw [e9] at gn
      exact ⟨bn, xn, nv, gn, I.keep tb hW1 q1, I.keep tx hW2 q2, hn⟩
end QE
section Q5
variable {M M0 M1 : mj_M} {o e p c k x n0 nx n c9 : Nat} {b : Nat → Int} {na lo hi : Int} {s : p_S} {W0 : Nat → Bool} {T T0 : tm_H} {N : List (Nat × Nat)}
theorem mz_mulL {x y : Int64} {a b : Int} (ha : x.toInt = a) (hb : y.toInt = b) (h1 : -9223372036854775808 ≤ a * b) (h2 : a * b ≤ 9223372036854775807) : (x * y).toInt = a * b := by
  subst ha
  subst hb
  rw [Int64.toInt_mul]
  exact mz_b64 h1 (by omega)
theorem qE.put (h : qE M e b N) (hW : tm_W tm_FT T M) (te : T e = some (3, 3, o)) (tp : T p = some (0, c, 0)) (K : ∀ (b c9 k9 : Nat) (w : Value), (c9 == c && k9 == k) = false → tm_at M b c9 k9 w → tm_at M1 b c9 k9 w) (KM : ∀ q, q ≠ p → M1 q = M q) (h3 : (3 == c && 0 == k) = false) (h4 : (4 == c && 0 == k) = false) (h0 : (0 == c && 2 == k) = false) : qE M1 e b N := by
  obtain ⟨⟨k9, h1, h2⟩, hl, h9⟩ := h
  refine ⟨⟨k9, K _ 0 2 _ h0 h1, h2⟩, hl, fun i q hq => ?_⟩
  obtain ⟨bi, xi, nv, g1, g2, g3, g4⟩ := h9 i q hq
  exact ⟨bi, xi, nv, tm_ge.put hW te tp (by decide) KM g1, K _ 3 0 _ h3 g2, K _ 4 0 _ h4 g3, g4⟩
theorem qE.made (h : qE M e b N) (hW : tm_W tm_FT T M) (te : T e = some (3, 3, o)) (kp : ∀ a t, T a = some t → M1 a = M a) : qE M1 e b N := by
  obtain ⟨⟨k9, h1, h2⟩, hl, h9⟩ := h
  obtain ⟨m0, k0, e0, N0, f0, hls0⟩ := hW e _ te
  refine ⟨⟨k9, tm_at.eq (kp _ _ te) h1, h2⟩, hl, fun i q hq => ?_⟩
  obtain ⟨bi, xi, nv, g1, g2, g3, g4⟩ := h9 i q hq
  have tb := (tm_ge.el hls0 g1).2.2
  exact ⟨bi, xi, nv, g1.mono hW te (kp _ _ te) (fun e9 te9 => kp _ _ te9), tm_at.eq (kp _ _ tb) g2, tm_at.eq (kp _ _ (tm_tx hW tb g2)) g3, g4⟩
theorem p_num_on (h : (p_num b n lo hi s).1 = 0) (h0 : s.1 = 0) : s.2.2 + 1 ≤ (p_num b n lo hi s).2.2 := by
  have hfl : ∀ e : Int, e ≠ 0 → (p_fl b n e s).1 ≠ 0 := fun e he => by
    unfold p_fl
    rw [if_pos h0]
    exact he
  unfold p_num at h ⊢
  rw [if_pos h0] at h ⊢
  by_cases h1 : 0 ≤ p_nm b n s.2.2
  · rw [if_pos h1] at h ⊢
    by_cases h2 : lo ≤ p_nm b n s.2.2 ∧ p_nm b n s.2.2 ≤ hi
    · rw [if_pos h2]
      exact Nat.le_refl _
    · rw [if_neg h2] at h
      exact absurd h (hfl 2 (by decide))
  · rw [if_neg h1] at h
    exact absurd h (hfl 1 (by decide))
theorem p_cl_c {q : p_D} (h : (p_cl b n na q).2.1 = 0) : q.2.2.1 = 0 ∧ q.1 < 12 ∧ p_ki b n q.2.2.2.2 ≠ 0 := by
  unfold p_cl at h
  by_cases h0 : q.2.2.1 = 0
  · rw [if_pos h0] at h
    have hfl : ∀ e : Int, e ≠ 0 → (p_fl b n e q.2.2).1 ≠ 0 := fun e he => by
      unfold p_fl
      rw [if_pos h0]
      exact he
    by_cases h1 : p_wi b n q.2.2.2.2 = 26 ∨ p_wi b n q.2.2.2.2 = 24 ∨ p_wi b n q.2.2.2.2 = 25
    · rw [if_pos h1] at h
      by_cases h2 : 12 ≤ q.1 ∨ (p_wi b n q.2.2.2.2 = 26 ∧ 6 ≤ q.2.1.length)
      · rw [if_pos h2] at h
        exact absurd h (hfl 4 (by decide))
      · refine ⟨h0, by omega, fun h3 => ?_⟩
        have h4 : p_wi b n q.2.2.2.2 = -1 := by
          unfold p_wi
          rw [if_neg (by omega)]
        omega
    · rw [if_neg h1] at h
      exact absurd h (hfl 1 (by decide))
  · rw [if_neg h0] at h
    exact absurd h h0
theorem qB.made (h : qB M o b n) (hW : tm_W tm_FT T M) (to : T o = some (0, 9, 0)) (kp : ∀ a t, T a = some t → M1 a = M a) : qB M1 o b n := by
  obtain ⟨h1, h2, h3, h4⟩ := h
  have e1 : M1 o = M o := kp _ _ to
  obtain ⟨bb, q1, t1⟩ := tm_9 hW (k := 3) to rfl
  have e2 : M1 bb = M bb := kp _ _ t1
  refine ⟨?_, h2, h3, fun i hi => ?_⟩
  · rw [← h1]
    unfold rv
    rw [e1]
  · rw [← h4 i hi]
    have q2 : tm_at M1 o 9 3 (.ref bb) := tm_at.eq e1 q1
    unfold ra
    rw [tm_rr q2, tm_rr q1, e2]
end Q5
/-! BYTES OF NUMBERS: what feed puts behind the tape -/
def p_u (b : Nat → Int) (n : Nat) (u : Int) : Nat → Int := fun i => if i = n then u else b i
def p_f4 (b : Nat → Int) (n : Nat) (X : Int) : Nat → Int := p_u (p_u (p_u (p_u b n (X / 16777216 % 256)) (n + 1) (X / 65536 % 256)) (n + 2) (X / 256 % 256)) (n + 3) (X / 1 % 256)
def p_f20 (b : Nat → Int) (n : Nat) (a1 a2 a3 a4 a5 : Int) : Nat → Int := p_f4 (p_f4 (p_f4 (p_f4 (p_f4 b n a1) (n + 4) a2) (n + 8) a3) (n + 12) a4) (n + 16) a5
def p_by (a1 a2 a3 a4 a5 : Int) (k : Nat) : Int := match k with
  | 0 => a1 / 16777216 % 256
  | 1 => a1 / 65536 % 256
  | 2 => a1 / 256 % 256
  | 3 => a1 / 1 % 256
  | 4 => a2 / 16777216 % 256
  | 5 => a2 / 65536 % 256
  | 6 => a2 / 256 % 256
  | 7 => a2 / 1 % 256
  | 8 => a3 / 16777216 % 256
  | 9 => a3 / 65536 % 256
  | 10 => a3 / 256 % 256
  | 11 => a3 / 1 % 256
  | 12 => a4 / 16777216 % 256
  | 13 => a4 / 65536 % 256
  | 14 => a4 / 256 % 256
  | 15 => a4 / 1 % 256
  | 16 => a5 / 16777216 % 256
  | 17 => a5 / 65536 % 256
  | 18 => a5 / 256 % 256
  | 19 => a5 / 1 % 256
  | _ => 0
/-- the first k bytes of twenty -/
def p_fk (b : Nat → Int) (n : Nat) (a1 a2 a3 a4 a5 : Int) : Nat → Nat → Int
  | 0 => b
  | k + 1 => p_u (p_fk b n a1 a2 a3 a4 a5 k) (n + k) (p_by a1 a2 a3 a4 a5 k)
theorem p_f20_fk {b : Nat → Int} {n : Nat} {a1 a2 a3 a4 a5 : Int} : p_f20 b n a1 a2 a3 a4 a5 = p_fk b n a1 a2 a3 a4 a5 20 := rfl
theorem mz_and255 (y : Int32) : (y &&& 255).toInt = y.toInt % 256 := by
  have h : (y &&& 255).toBitVec.toNat = y.toBitVec.toNat % 256 := by
    rw [Int32.toBitVec_and, BitVec.toNat_and]
    exact Nat.and_two_pow_sub_one_eq_mod _ 8
  have hlt := y.toBitVec.isLt
  show (y &&& 255).toBitVec.toInt = y.toBitVec.toInt % 256
  rw [BitVec.toInt_eq_toNat_cond, BitVec.toInt_eq_toNat_cond, h]
  split <;> split <;> omega
theorem mz_ubn {x y : Int32} {P : Nat} (h : y.toBitVec.toNat = x.toBitVec.toNat / P) (hP : P = 16777216 ∨ P = 65536 ∨ P = 256 ∨ P = 1) : (y &&& 255).toInt = x.toInt / (P : Int) % 256 := by
  rw [mz_and255]
  have hlt := x.toBitVec.isLt
  have hly := y.toBitVec.isLt
  show y.toBitVec.toInt % 256 = x.toBitVec.toInt / _ % 256
  rw [BitVec.toInt_eq_toNat_cond, BitVec.toInt_eq_toNat_cond]
  rcases hP with rfl | rfl | rfl | rfl <;> (split <;> split <;> omega)
theorem mz_ush {x : Int32} {t : UInt32} {K : Nat} (ht : t.toNat % 32 = K) : (x.toUInt32 >>> t).toInt32.toBitVec.toNat = x.toBitVec.toNat / 2 ^ K := by
  show (x.toUInt32 >>> t).toNat = x.toUInt32.toNat / 2 ^ K
  rw [UInt32.toNat_shiftRight, ht, Nat.shiftRight_eq_div_pow]
theorem mz_ub24 (x : Int32) : ((x.toUInt32 >>> ((24 : Int32).toUInt32 &&& Int32.toUInt32 31)).toInt32 &&& 255).toInt = x.toInt / 16777216 % 256 := mz_ubn (P := 16777216) (mz_ush (K := 24) (by decide)) (Or.inl rfl)
theorem mz_ub16 (x : Int32) : ((x.toUInt32 >>> ((16 : Int32).toUInt32 &&& Int32.toUInt32 31)).toInt32 &&& 255).toInt = x.toInt / 65536 % 256 := mz_ubn (P := 65536) (mz_ush (K := 16) (by decide)) (Or.inr (Or.inl rfl))
theorem mz_ub8 (x : Int32) : ((x.toUInt32 >>> ((8 : Int32).toUInt32 &&& Int32.toUInt32 31)).toInt32 &&& 255).toInt = x.toInt / 256 % 256 := mz_ubn (P := 256) (mz_ush (K := 8) (by decide)) (Or.inr (Or.inr (Or.inl rfl)))
theorem mz_ub0 (x : Int32) : ((x.toUInt32 >>> ((0 : Int32).toUInt32 &&& Int32.toUInt32 31)).toInt32 &&& 255).toInt = x.toInt / 1 % 256 := mz_ubn (P := 1) (mz_ush (K := 0) (by decide)) (Or.inr (Or.inr (Or.inr rfl)))
section QU
variable {M M1 M2 : mj_M} {o n m : Nat} {b : Nat → Int} {u w : Int}
theorem p_u_r (h : ∀ i, 0 ≤ b i ∧ b i ≤ 255) (h0 : 0 ≤ u ∧ u ≤ 255) : ∀ i, 0 ≤ p_u b n u i ∧ p_u b n u i ≤ 255 := fun i => by
  unfold p_u
  split
  · exact h0
  · exact h i
/-- a byte behind the desk's tape -/
theorem qB.put (h : qB M o b n) (E : ∀ j, ra M1 o 3 j = if j = m then u else ra M o 3 j) (A : ∀ j, ra M2 o 3 j = ra M1 o 3 j) (hv : rv M2 o 0 = (n : Int) + 1) (hm : (m : Int) = n) (hn : (n : Int) + 1 ≤ 400) (hu : 0 ≤ u ∧ u ≤ 255) : qB M2 o (p_u b n u) (n + 1) := by
  obtain ⟨h1, h2, h3, h4⟩ := h
  have e : m = n := by omega
  subst e
  refine ⟨by rw [hv]; rfl, by omega, p_u_r h3 hu, fun i hi => ?_⟩
  rw [A, E]
  unfold p_u
  by_cases hi2 : i = m
  · rw [if_pos hi2, if_pos hi2]
  · rw [if_neg hi2, if_neg hi2]
    exact h4 i (by omega)
/-- a byte behind the reference's tape -/
theorem pX.put (h : pX M o b n) (E : ∀ j, ra M1 o 13 j = if j = m then w else ra M o 13 j) (A : ∀ j, ra M2 o 13 j = ra M1 o 13 j) (hv : rv M2 o 14 = (n : Int) + 1) (hm : (m : Int) = n) (hn : (n : Int) + 1 ≤ 400) (hu : 0 ≤ u ∧ u ≤ 255) (hw : w = if u < 128 then u else u - 256) : pX M2 o (p_u b n u) (n + 1) := by
  obtain ⟨h1, h2, h3, h4⟩ := h
  have e : m = n := by omega
  subst e
  refine ⟨by rw [hv]; rfl, by omega, p_u_r h3 hu, fun i hi => ?_⟩
  rw [A, E]
  unfold p_u
  by_cases hi2 : i = m
  · rw [if_pos hi2, if_pos hi2]
    exact hw
  · rw [if_neg hi2, if_neg hi2]
    exact h4 i (by omega)
end QU
theorem mz_sar {x s : Int32} {K : Nat} (hs : (s.toBitVec.smod 32).toNat = K) : (x >>> s).toInt = x.toInt / ((2 ^ K : Nat) : Int) := by
  show (BitVec.sshiftRight' x.toBitVec (s.toBitVec.smod 32)).toInt = _
  rw [BitVec.sshiftRight_eq', hs, BitVec.toInt_sshiftRight, Int.shiftRight_eq_div_pow]
  rfl
theorem mz_bb (z : Int) : (z.bmod (2 ^ 8)).bmod (2 ^ 8) = if z % 256 < 128 then z % 256 else z % 256 - 256 := by
  rw [Int.bmod_bmod]
  rfl
theorem mz_sbn {x y : Int32} {P : Nat} (h : y.toInt = x.toInt / (P : Int)) : (vp_nar .byte y.toInt8.toInt32).toInt = if x.toInt / (P : Int) % 256 < 128 then x.toInt / (P : Int) % 256 else x.toInt / (P : Int) % 256 - 256 := by
  show (y.toInt8.toInt32.toInt8.toInt32).toInt = _
  rw [Int8.toInt_toInt32, Int32.toInt_toInt8, Int8.toInt_toInt32, Int32.toInt_toInt8, h]
  exact mz_bb _
theorem mz_sb24 (x : Int32) : (vp_nar .byte (x >>> (24 &&& 31)).toInt8.toInt32).toInt = if x.toInt / 16777216 % 256 < 128 then x.toInt / 16777216 % 256 else x.toInt / 16777216 % 256 - 256 := mz_sbn (P := 16777216) (mz_sar (K := 24) (by decide))
theorem mz_sb16 (x : Int32) : (vp_nar .byte (x >>> (16 &&& 31)).toInt8.toInt32).toInt = if x.toInt / 65536 % 256 < 128 then x.toInt / 65536 % 256 else x.toInt / 65536 % 256 - 256 := mz_sbn (P := 65536) (mz_sar (K := 16) (by decide))
theorem mz_sb8 (x : Int32) : (vp_nar .byte (x >>> (8 &&& 31)).toInt8.toInt32).toInt = if x.toInt / 256 % 256 < 128 then x.toInt / 256 % 256 else x.toInt / 256 % 256 - 256 := mz_sbn (P := 256) (mz_sar (K := 8) (by decide))
theorem mz_sb0 (x : Int32) : (vp_nar .byte (x >>> (0 &&& 31)).toInt8.toInt32).toInt = if x.toInt / 1 % 256 < 128 then x.toInt / 1 % 256 else x.toInt / 1 % 256 - 256 := mz_sbn (P := 1) (mz_sar (K := 0) (by decide))
section MRE
variable {g : mj_G} {l : Launch} {y : mj_Y} {d pc : Nat} {lv : List (Nat × Value)} {st : List Value} {M M0 : mj_M} {nx n0 kc ks x : Nat} {Q : Option Value → mj_M → Nat → Prop} {W : Nat → Bool} {T T0 : tm_H}
/-- a byte of a row is written, told exactly -/
theorem tr_bastE {o k a e N : Nat} {i : Int32} {v : Int32} (I : tm_I tm_FT W x T0 M0 n0 T M nx) (R : rI M o) (to : T o = some (0, 13, 0)) (hq : tm_at M o 13 k (.ref a)) (ta : T a = some (1, e, N)) (he : e % 8 = 3) (he2 : e / 8 = 20000 + k) (hb : ∀ lo hi, rgA k = some (lo, hi) → lo ≤ (vp_nar .byte v).toInt ∧ (vp_nar .byte v).toInt ≤ hi) (hW : W (e / 8) = true ∨ n0 ≤ a) (hd : decode y.2.1 pc = .ok (.bastore, 1)) (hin : vp_in i N) (kk : ∀ M1, tm_I tm_FT W x T0 M0 n0 T M1 nx → (∀ (b c k : Nat) (w : Value), tm_at M b c k w → tm_at M1 b c k w) → rI M1 o → (∀ j, ra M1 o k j = if j = i.toNatClampNeg then (vp_nar .byte v).toInt else ra M o k j) → (∀ j, j ≠ k → rgK j = true → ∀ i, ra M1 o j i = ra M o j i) → (∀ j, rv M1 o j = rv M o j) → mj_V g l y d (pc + 1) lv st M1 nx kc ks Q) : mj_V g l y d pc lv (.int v :: .int i :: .ref a :: st) M nx kc ks Q := by
  obtain ⟨f, hm⟩ := tm_arrI I ta (by omega)
  have hm0 := hm
  rw [he] at hm
  have hra : ∀ j, ra M o k j = (f j).toInt := fun j => by rw [ra_of hq hm0]; rfl
  have hrc : ∀ j, ((upd f i.toNatClampNeg (vp_nar .byte v)) j).toInt = if j = i.toNatClampNeg then (vp_nar .byte v).toInt else (f j).toInt := fun j => by
    unfold upd
    by_cases h : j = i.toNatClampNeg
    · rw [if_pos h, if_pos h]
    · rw [if_neg h, if_neg h]
  refine mv_bast hd hm hin rfl (kk _ (I.ast tm_okF ta hW (tm_c1 (by omega) (by rw [mj_up_self, he]))) (tm_at.ast hm0) (rI_st I R to ta hq he2 fun lo hi hk j => ?_) (fun j => ?_) (fun j hj hK j2 => (ra_st I to ta hq he2 j2).2.2 hj hK) (fun j => (ra_st I to ta hq he2 0).1))
  · show lo ≤ ((upd f i.toNatClampNeg (vp_nar .byte v)) j).toInt ∧ ((upd f i.toNatClampNeg (vp_nar .byte v)) j).toInt ≤ hi
    rw [hrc]
    by_cases h : j = i.toNatClampNeg
    · rw [if_pos h]
      exact hb lo hi hk
    · rw [if_neg h, ← hra]
      exact R.a hk j
  · rw [(ra_st (j := k) I to ta hq he2 j).2.1]
    show ((upd f i.toNatClampNeg (vp_nar .byte v)) j).toInt = _
    rw [hrc, hra]
end MRE
