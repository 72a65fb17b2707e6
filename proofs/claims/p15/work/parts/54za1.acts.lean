/-! WHAT AN ACT TELLS: six numbers, the last told of each -/
def p_dv (w : Nat) : Int := match w with
  | 0 => 3
  | 1 => 1
  | 2 => 30
  | 3 => 90
  | 4 => 0
  | _ => 20
/-- behind the rule that begins at s -/
def p_V (b : Nat → Int) (n : Nat) (s : p_S) (V : Nat → Int) : Nat → Int := fun w => if p_wi b n s.2.2 = (w : Int) + 13 then p_nm b n (s.2.2 + 1) else V w
abbrev p_A : Type := (Nat × p_S) × (Nat → Int)
def p_av1 (b : Nat → Int) (n : Nat) (na : Int) (q : p_A) : p_A := if q.1.2.1 = 0 ∧ p_ki b n q.1.2.2.2 ≠ 0 then (p_ac1 b n na q.1, p_V b n q.1.2 q.2) else q
def p_av (b : Nat → Int) (n : Nat) : p_A := p_lp n (p_av1 b n 13) ((0, 0, 0, 0), p_dv)
section PAV
variable {b : Nat → Int} {n : Nat} {na : Int}
theorem p_av1_on {q : p_A} (h : q.1.2.1 = 0 ∧ p_ki b n q.1.2.2.2 ≠ 0) : p_av1 b n na q = (p_ac1 b n na q.1, p_V b n q.1.2 q.2) := if_pos h
theorem p_av1_no {q : p_A} (h : ¬ (q.1.2.1 = 0 ∧ p_ki b n q.1.2.2.2 ≠ 0)) : p_av1 b n na q = q := if_neg h
theorem p_ac1_no {q : Nat × p_S} (h : ¬ (q.2.1 = 0 ∧ p_ki b n q.2.2.2 ≠ 0)) : p_ac1 b n na q = q := if_neg h
theorem p_ac1_on {q : Nat × p_S} (h : q.2.1 = 0 ∧ p_ki b n q.2.2.2 ≠ 0) : p_ac1 b n na q = (q.1 + 1, p_rul b n na q.1 q.2) := if_pos h
theorem p_av1_1 (q : p_A) : (p_av1 b n na q).1 = p_ac1 b n na q.1 := by
  by_cases h : q.1.2.1 = 0 ∧ p_ki b n q.1.2.2.2 ≠ 0
  · rw [p_av1_on h]
  · rw [p_av1_no h, p_ac1_no h]
theorem p_it_av : ∀ (m : Nat) (q : p_A), (p_it (p_av1 b n na) m q).1 = p_it (p_ac1 b n na) m q.1
  | 0, _ => rfl
  | m + 1, q => by
    show (p_it (p_av1 b n na) m (p_av1 b n na q)).1 = p_it (p_ac1 b n na) m (p_ac1 b n na q.1)
    rw [p_it_av m, p_av1_1]
theorem p_av_1 : (p_av b n).1 = p_act b n := p_it_av (n + 1) _
theorem p_av1_P : p_P n (fun q : p_A => p_ka q.1.2) (p_av1 b n na) := fun q => by
  by_cases h9 : q.1.2.1 = 0 ∧ p_ki b n q.1.2.2.2 ≠ 0
  · rcases p_ac1_P (b := b) (n := n) (na := na) q.1 with h | h
    · exfalso
      have e := congrArg Prod.fst ((p_ac1_on h9).symm.trans h)
      exact absurd e (Nat.succ_ne_self _)
    · refine Or.inr ⟨h.1, ?_⟩
      show p_ka q.1.2 < p_ka (p_av1 b n na q).1.2
      rw [p_av1_1]
      exact h.2
  · exact Or.inl (p_av1_no h9)
end PAV
/-! THE REFERENCE'S ROWS OF AN ACT -/
def sc (M : mj_M) (o base : Nat) : Nat → Nat → Int → Int
  | 0, _, v => v
  | k + 1, w, v => if ra M o 7 (base + k) = (w : Int) then ra M o 8 (base + k) else sc M o base k w v
section SC
variable {M M1 : mj_M} {o b0 b1 c n : Nat} {w : Nat} {v A : Int} {b : Nat → Int} {s : p_S} {V fr : Nat → Int} {va : Nat → Nat → Int}
theorem sc_al : ∀ (c : Nat), (∀ k, k < c → ra M1 o 7 (b1 + k) = ra M o 7 (b0 + k)) → (∀ k, k < c → ra M1 o 8 (b1 + k) = ra M o 8 (b0 + k)) → sc M1 o b1 c w v = sc M o b0 c w v
  | 0, _, _ => rfl
  | c + 1, h7, h8 => by
    show (if ra M1 o 7 (b1 + c) = (w : Int) then ra M1 o 8 (b1 + c) else sc M1 o b1 c w v) = if ra M o 7 (b0 + c) = (w : Int) then ra M o 8 (b0 + c) else sc M o b0 c w v
    rw [h7 c (Nat.lt_succ_self c), h8 c (Nat.lt_succ_self c), sc_al c (fun k hk => h7 k (Nat.lt_succ_of_lt hk)) (fun k hk => h8 k (Nat.lt_succ_of_lt hk))]
/-- the row that a rule makes -/
def rwA (M : mj_M) (o r : Nat) (b : Nat → Int) (n k : Nat) : Prop := (13 ≤ p_wi b n k ∧ p_wi b n k ≤ 18 ∧ ra M o 7 r = p_wi b n k - 13 ∧ ra M o 8 r = p_nm b n (k + 1)) ∨ (p_wi b n k = 23 ∧ ra M o 7 r = 6)
/-- one rule more -/
theorem sc_step (hc : ra M o 6 44 = (c : Int)) (hK : rK M M1 o (880 + ra M o 6 44).toNat) (hV : ∀ w : Nat, w < 6 → sc M o 880 c w (p_dv w) = V w) (hr : rwA M1 o (880 + ra M o 6 44).toNat b n s.2.2) : ∀ w : Nat, w < 6 → sc M1 o 880 (c + 1) w (p_dv w) = p_V b n s V w := by
  intro w hw
  have e : (880 + ra M o 6 44).toNat = 880 + c := by omega
  rw [e] at hK hr
  have h1 : sc M1 o 880 c w (p_dv w) = V w := (sc_al c (fun k hk => hK 7 rfl _ (by omega)) (fun k hk => hK 8 rfl _ (by omega))).trans (hV w hw)
  show (if ra M1 o 7 (880 + c) = (w : Int) then ra M1 o 8 (880 + c) else sc M1 o 880 c w (p_dv w)) = if p_wi b n s.2.2 = (w : Int) + 13 then p_nm b n (s.2.2 + 1) else V w
  rcases hr with ⟨r1, r2, r3, r4⟩ | ⟨r1, r2⟩
  · by_cases h : p_wi b n s.2.2 = (w : Int) + 13
    · rw [if_pos h, if_pos (by omega)]
      exact r4
    · rw [if_neg h, if_neg (by omega)]
      exact h1
  · rw [if_neg (show ¬ p_wi b n s.2.2 = (w : Int) + 13 by omega), if_neg (by omega)]
    exact h1
/-- the rows of a text, copied -/
theorem sc_cp {t : Nat} (hc : ra M o 6 44 = (c : Int)) (h7 : rcp M M1 o 7 880 (20 * t) (ra M o 6 44)) (h8 : rcp M M1 o 8 880 (20 * t) (ra M o 6 44)) : sc M1 o (20 * t) c w v = sc M o 880 c w v :=
  sc_al c (fun k hk => h7.1 k (by omega)) (fun k hk => h8.1 k (by omega))
/-- the acts that the reference has -/
def aA (M : mj_M) (o : Nat) (A : Int) (fr : Nat → Int) (va : Nat → Nat → Int) : Prop := ∀ i : Nat, (i : Int) < A → ra M o 28 i = fr i ∧ ∀ w : Nat, w < 6 → sc M o (20 * i) (ra M o 6 i).toNat w (p_dv w) = va i w
theorem aA.of (h : aA M o A fr va) (h6 : ∀ i : Nat, (i : Int) < A → ra M1 o 6 i = ra M o 6 i) (h28 : ∀ i : Nat, (i : Int) < A → ra M1 o 28 i = ra M o 28 i) (hm : ∀ i : Nat, (i : Int) < A → ra M o 6 i ≤ 20) (h7 : ∀ r : Nat, (r : Int) < 20 * A → ra M1 o 7 r = ra M o 7 r) (h8 : ∀ r : Nat, (r : Int) < 20 * A → ra M1 o 8 r = ra M o 8 r) : aA M1 o A fr va := fun i hi => by
  obtain ⟨h1, h2⟩ := h i hi
  refine ⟨(h28 i hi).trans h1, fun w hw => ?_⟩
  rw [h6 i hi, ← h2 w hw]
  have := hm i hi
  exact sc_al _ (fun k hk => h7 _ (by omega)) (fun k hk => h8 _ (by omega))
theorem aA.same (h : aA M o A fr va) (hs : sA [6, 7, 8, 28] M M1 o) : aA M1 o A fr va := fun i hi => by
  obtain ⟨h1, h2⟩ := h i hi
  have e6 := hs 6 rfl
  have e7 := hs 7 rfl
  have e8 := hs 8 rfl
  have e28 := hs 28 rfl
  refine ⟨by rw [e28]; exact h1, fun w hw => ?_⟩
  rw [e6, ← h2 w hw]
  exact sc_al _ (fun k _ => by rw [e7]) (fun k _ => by rw [e8])
/-- behind the reading of a rule or a clause -/
theorem aA.rd (h : aA M o A fr va) (R : rI M o) (hA : A ≤ 20) (hO : rO M M1 o) (h6 : ∀ i : Nat, i ≠ 44 → ra M1 o 6 i = ra M o 6 i) (h28 : sA [28] M M1 o) : aA M1 o A fr va :=
  h.of (fun i hi => h6 i (by omega)) (fun i _ => congrFun (h28 28 rfl) i) (fun i hi => (R.2 6 _ _ rfl i).2) (fun r hr => hO.2 7 rfl r (by omega)) (fun r hr => hO.2 8 rfl r (by omega))
/-- behind a beginning -/
theorem aA.st (h : aA M o A fr va) (R : rI M o) (hA : A ≤ 20) (h6 : ∀ i : Nat, i ≠ 44 → ra M1 o 6 i = ra M o 6 i) (hs : sA [7, 8, 28] M M1 o) : aA M1 o A fr va :=
  h.of (fun i hi => h6 i (by omega)) (fun i _ => congrFun (hs 28 rfl) i) (fun i hi => (R.2 6 _ _ rfl i).2) (fun r _ => congrFun (hs 7 rfl) r) (fun r _ => congrFun (hs 8 rfl) r)
/-- behind a text told -/
theorem aA.stop {t : Nat} {z : Int} (h : aA M o A fr va) (R : rI M o) (ht : A ≤ (t : Int)) (hz : z ≠ 0 → sA [4, 7, 8, 10, 11, 12] M M1 o) (hw : z = 0 → rcp M M1 o 7 880 (20 * t) (ra M o 6 44) ∧ rcp M M1 o 8 880 (20 * t) (ra M o 6 44)) (h6 : ∀ i : Nat, i ≠ t → ra M1 o 6 i = ra M o 6 i) (h28 : sA [28] M M1 o) : aA M1 o A fr va := by
  refine h.of (fun i hi => h6 i (by omega)) (fun i _ => congrFun (h28 28 rfl) i) (fun i hi => (R.2 6 _ _ rfl i).2) (fun r hr => ?_) (fun r hr => ?_)
  · by_cases e : z = 0
    · exact (hw e).1.2 r (Or.inl (by omega))
    · exact congrFun (hz e 7 rfl) r
  · by_cases e : z = 0
    · exact (hw e).2.2 r (Or.inl (by omega))
    · exact congrFun (hz e 8 rfl) r
/-- one act more -/
theorem aA.more {x : Int} {X : Nat → Int} (h : aA M o A fr va) (h0 : 0 ≤ A) (h1 : ra M o 28 A.toNat = x) (h2 : ∀ w : Nat, w < 6 → sc M o (20 * A.toNat) (ra M o 6 A.toNat).toNat w (p_dv w) = X w) : aA M o (A + 1) (fun i => if i = A.toNat then x else fr i) (fun i => if i = A.toNat then X else va i) := fun i hi => by
  by_cases e : i = A.toNat
  · subst e
    simp only [if_pos]
    exact ⟨h1, h2⟩
  · simp only [if_neg e]
    exact h i (by omega)
end SC
/-! WHICH ACT IS IN FORCE -/
def p_on (fr : Nat → Int) (day : Int) : Nat → Int
  | 0 => -1
  | k + 1 => if fr k ≤ day ∧ (p_on fr day k = -1 ∨ fr (p_on fr day k).toNat ≤ fr k) then (k : Int) else p_on fr day k
def p_told (fr : Nat → Int) (va : Nat → Nat → Int) (day : Int) (A w : Nat) : Int := if p_on fr day A = -1 then p_dv w else va (p_on fr day A).toNat w
theorem p_on_r {fr : Nat → Int} {day : Int} : ∀ k : Nat, p_on fr day k = -1 ∨ 0 ≤ p_on fr day k ∧ p_on fr day k < k
  | 0 => Or.inl rfl
  | k + 1 => by
    have h := p_on_r (fr := fr) (day := day) k
    show (if fr k ≤ day ∧ (p_on fr day k = -1 ∨ fr (p_on fr day k).toNat ≤ fr k) then (k : Int) else p_on fr day k) = -1 ∨ 0 ≤ (if fr k ≤ day ∧ (p_on fr day k = -1 ∨ fr (p_on fr day k).toNat ≤ fr k) then (k : Int) else p_on fr day k) ∧ (if fr k ≤ day ∧ (p_on fr day k = -1 ∨ fr (p_on fr day k).toNat ≤ fr k) then (k : Int) else p_on fr day k) < ((k + 1 : Nat) : Int)
    split
    · omega
    · omega
section SC2
variable {M M1 : mj_M} {o c t : Nat} {A x : Int} {fr : Nat → Int} {va : Nat → Nat → Int}
theorem sc_same (hs : sA [7, 8] M M1 o) {b w : Nat} {v : Int} : sc M1 o b c w v = sc M o b c w v := by
  have e7 := hs 7 rfl
  have e8 := hs 8 rfl
  exact sc_al c (fun k _ => by rw [e7]) (fun k _ => by rw [e8])
theorem aA.w28 (h : aA M o A fr va) (R : rI M o) (E : ∀ j, ra M1 o 28 j = if j = t then x else ra M o 28 j) (ht : A ≤ (t : Int)) (hs : sA [6, 7, 8] M M1 o) : aA M1 o A fr va :=
  h.of (fun i _ => congrFun (hs 6 rfl) i) (fun i hi => (E i).trans (if_neg (by omega))) (fun i hi => (R.2 6 _ _ rfl i).2) (fun r _ => congrFun (hs 7 rfl) r) (fun r _ => congrFun (hs 8 rfl) r)
end SC2
/-- what the reference looks up -/
def p_tr (M : mj_M) (o : Nat) (day : Int) (w : Nat) : Int := if p_on (ra M o 28) day (rv M o 27).toNat = -1 then p_dv w else sc M o (20 * (p_on (ra M o 28) day (rv M o 27).toNat).toNat) (ra M o 6 (p_on (ra M o 28) day (rv M o 27).toNat).toNat).toNat w (p_dv w)
section PTR
variable {M M1 : mj_M} {o i A w : Nat} {fr : Nat → Int} {va : Nat → Nat → Int} {day z : Int}
theorem p_on_yes (h : z = p_on fr day i) (h1 : fr i ≤ day) (h2 : z = -1 ∨ fr z.toNat ≤ fr i) : (i : Int) = p_on fr day (i + 1) := by
  subst h
  exact (if_pos ⟨h1, h2⟩).symm
theorem p_on_not (h : z = p_on fr day i) (h1 : ¬ fr i ≤ day ∨ z ≠ -1 ∧ ¬ fr z.toNat ≤ fr i) : z = p_on fr day (i + 1) := by
  subst h
  refine (if_neg fun h9 => ?_).symm
  rcases h1 with h1 | h1
  · exact h1 h9.1
  · rcases h9.2 with h8 | h8
    · exact h1.1 h8
    · exact h1.2 h8
theorem p_on_cg {f g : Nat → Int} {day : Int} : ∀ A : Nat, (∀ i, i < A → f i = g i) → p_on f day A = p_on g day A
  | 0, _ => rfl
  | A + 1, h => by
    have e := p_on_cg (f := f) (g := g) (day := day) A (fun i hi => h i (by omega))
    have r := p_on_r (fr := g) (day := day) A
    show (if f A ≤ day ∧ (p_on f day A = -1 ∨ f (p_on f day A).toNat ≤ f A) then (A : Int) else p_on f day A) = if g A ≤ day ∧ (p_on g day A = -1 ∨ g (p_on g day A).toNat ≤ g A) then (A : Int) else p_on g day A
    rw [e, h A (by omega), h (p_on g day A).toNat (by omega)]
theorem p_tr_told (h : aA M o (A : Int) fr va) (hA : rv M o 27 = (A : Int)) (hw : w < 6) : p_tr M o day w = p_told fr va day A w := by
  have e : p_on (ra M o 28) day A = p_on fr day A := p_on_cg A (fun i hi => (h i (by omega)).1)
  unfold p_tr p_told
  rw [hA, show ((A : Int)).toNat = A from by omega, e]
  by_cases h9 : p_on fr day A = -1
  · rw [if_pos h9, if_pos h9]
  · rw [if_neg h9, if_neg h9]
    have r := p_on_r (fr := fr) (day := day) A
    exact (h (p_on fr day A).toNat (by omega)).2 w hw
theorem p_tr_same (hs : sA [6, 7, 8, 28] M M1 o) (h : rv M1 o 27 = rv M o 27) : p_tr M1 o day w = p_tr M o day w := by
  have e6 := hs 6 rfl
  have e7 := hs 7 rfl
  have e8 := hs 8 rfl
  have e28 := hs 28 rfl
  unfold p_tr
  rw [h, e28, e6, sc_al (M := M) (M1 := M1) (b0 := 20 * (p_on (ra M o 28) day (rv M o 27).toNat).toNat) _ (fun k _ => by rw [e7]) (fun k _ => by rw [e8])]
end PTR
def w_TrustDeskModel_starts_a : List Nat := [1315, 1316, 1317, 1318, 1319, 1322, 1323, 1324, 20005, 20006]
set_option maxHeartbeats 100000000 in theorem tc_TrustDeskModel_starts_a {g : mj_G} {l : Launch} {d : Nat} {T0 : tm_H} {M0 : mj_M} {n0 x9 : Nat} {o0 : Nat} {x1 : Int32} (h_o0 : T0 o0 = some (0, 13, 0)) (hn0 : 0 ≤ x1.toInt ∧ x1.toInt ≤ 1) (yR : rI M0 o0) {pb : Nat → Int} {pn : Nat} (yXT : pX M0 o0 pb pn) (I0 : tm_I tm_FT (tm_in w_TrustDeskModel_starts_a) x9 T0 M0 n0 T0 M0 n0) : mj_Met g l kY_TrustDeskModel_starts (d + 2) [.ref o0, .int x1] M0 n0 0 0 (tm_Q tm_FT (tm_in w_TrustDeskModel_starts_a) x9 T0 M0 n0 (fun r _ M => r = none ∧ rI M o0 ∧ (rT M o0) ∧ (rv M o0 19 = 0) ∧ (rv M o0 22 = 0) ∧ (rv M o0 24 = 0) ∧ (ra M o0 5 44 = 0) ∧ (ra M o0 6 44 = 0) ∧ (pO M o0 pb pn (if x1.toInt = 0 then (10 : Int) else 13) (0, 0, 0)) ∧ (∀ i : Nat, i ≠ 44 → ra M o0 6 i = ra M0 o0 6 i))) := by
  refine mj_enter (by decide) (Nat.le_of_ble_eq_true rfl) ?_
  have K1 : ∀ i : Nat, i ≠ 44 → ra M0 o0 6 i = ra M0 o0 6 i := (fun _ _ => rfl)
  refine mv_aload_n d_TrustDeskModel_starts_0 rfl rfl ?_
  refine mv_iload_n d_TrustDeskModel_starts_1 rfl rfl ?_
  refine tr_putR (k := 23) I0 yR h_o0 rfl ⟨_, rfl⟩ (fun _ h => by cases h) rfl (fun lo hi h => by cases h) (Or.inl (by decide)) d_TrustDeskModel_starts_2 p_TrustDeskModel_267_13 (mz_nb (by omega) (by omega)) (mz_fz (by omega) (by omega)) (fun M2 I3 q4 K5 R6 A7 V8 => ?_)
  have z9 := (V8 15 (by decide))
  have z10 := (V8 16 (by decide))
  have z11 := (V8 17 (by decide))
  have z12 := (V8 19 (by decide))
  have z13 := (V8 22 (by decide))
  have z14 := (V8 24 (by decide))
  have z15 := (A7 5 (by decide) 44)
  have z16 := (A7 6 (by decide) 44)
  have z17 : rv M2 o0 23 = x1.toInt := tm_rv q4
  have K18 : ∀ i : Nat, i ≠ 44 → ra M2 o0 6 i = ra M0 o0 6 i := (by have e9 := ((sA_f A7 (by decide)) : sA [6] _ _ _) 6 rfl; rw [e9]; exact K1)
  have K19 : pX M2 o0 pb pn := yXT.same (sA_f A7 (by decide)) (sF_f V8 (by decide))
  refine mv_aload_n d_TrustDeskModel_starts_5 rfl rfl ?_
  refine mv_iconst (v := 0) d_TrustDeskModel_starts_6 (by decide) ?_
  refine tr_putR (k := 19) I3 R6 h_o0 rfl ⟨_, rfl⟩ (fun _ h => by cases h) rfl (fun lo hi h => by cases h; have e9 : (0 : Int32).toInt = 0 := (by decide); exact ⟨by show (0 : Int) ≤ (0 : Int32).toInt; omega, by show (0 : Int32).toInt ≤ (4 : Int); omega⟩) (Or.inl (by decide)) d_TrustDeskModel_starts_7 p_TrustDeskModel_224_13 rfl rfl (fun M20 I21 q22 K23 R24 A25 V26 => ?_)
  have z27 := (V26 15 (by decide)).trans z9
  have z28 := (V26 16 (by decide)).trans z10
  have z29 := (V26 17 (by decide)).trans z11
  have z30 := (V26 22 (by decide)).trans z13
  have z31 := (V26 24 (by decide)).trans z14
  have z32 := (V26 23 (by decide)).trans z17
  have z33 := (A25 5 (by decide) 44).trans z15
  have z34 := (A25 6 (by decide) 44).trans z16
  have z35 : rv M20 o0 19 = 0 := tm_rv q22
  have K36 : ∀ i : Nat, i ≠ 44 → ra M20 o0 6 i = ra M0 o0 6 i := (by have e9 := ((sA_f A25 (by decide)) : sA [6] _ _ _) 6 rfl; rw [e9]; exact K18)
  have K37 : pX M20 o0 pb pn := K19.same (sA_f A25 (by decide)) (sF_f V26 (by decide))
  clear z9 z10 z11 z13 z14 z17 z15 z16
  refine mv_aload_n d_TrustDeskModel_starts_10 rfl rfl ?_
  refine mv_iconst (v := 0) d_TrustDeskModel_starts_11 (by decide) ?_
  refine tr_putR (k := 15) I21 R24 h_o0 rfl ⟨_, rfl⟩ (fun _ h => by cases h) rfl (fun lo hi h => by cases h; have e9 : (0 : Int32).toInt = 0 := (by decide); exact ⟨by show (0 : Int) ≤ (0 : Int32).toInt; omega, by show (0 : Int32).toInt ≤ (400 : Int); omega⟩) (Or.inl (by decide)) d_TrustDeskModel_starts_12 p_TrustDeskModel_192_13 rfl rfl (fun M38 I39 q40 K41 R42 A43 V44 => ?_)
  have z45 := (V44 16 (by decide)).trans z28
  have z46 := (V44 17 (by decide)).trans z29
  have z47 := (V44 19 (by decide)).trans z35
  have z48 := (V44 22 (by decide)).trans z30
  have z49 := (V44 24 (by decide)).trans z31
  have z50 := (V44 23 (by decide)).trans z32
  have z51 := (A43 5 (by decide) 44).trans z33
  have z52 := (A43 6 (by decide) 44).trans z34
  have z53 : rv M38 o0 15 = 0 := tm_rv q40
  have K54 : ∀ i : Nat, i ≠ 44 → ra M38 o0 6 i = ra M0 o0 6 i := (by have e9 := ((sA_f A43 (by decide)) : sA [6] _ _ _) 6 rfl; rw [e9]; exact K36)
  have K55 : pX M38 o0 pb pn := K37.same (sA_f A43 (by decide)) (sF_f V44 (by decide))
  clear z28 z29 z30 z31 z32 z33 z34
  refine mv_aload_n d_TrustDeskModel_starts_15 rfl rfl ?_
  refine mv_iconst (v := 0) d_TrustDeskModel_starts_16 (by decide) ?_
  refine tr_putR (k := 22) I39 R42 h_o0 rfl ⟨_, rfl⟩ (fun _ h => by cases h) rfl (fun lo hi h => by cases h) (Or.inl (by decide)) d_TrustDeskModel_starts_17 p_TrustDeskModel_276_13 rfl rfl (fun M56 I57 q58 K59 R60 A61 V62 => ?_)
  have z63 := (V62 15 (by decide)).trans z53
  have z64 := (V62 16 (by decide)).trans z45
  have z65 := (V62 17 (by decide)).trans z46
  have z66 := (V62 19 (by decide)).trans z47
  have z67 := (V62 24 (by decide)).trans z49
  have z68 := (V62 23 (by decide)).trans z50
  have z69 := (A61 5 (by decide) 44).trans z51
  have z70 := (A61 6 (by decide) 44).trans z52
  have z71 : rv M56 o0 22 = 0 := tm_rv q58
  have K72 : ∀ i : Nat, i ≠ 44 → ra M56 o0 6 i = ra M0 o0 6 i := (by have e9 := ((sA_f A61 (by decide)) : sA [6] _ _ _) 6 rfl; rw [e9]; exact K54)
  have K73 : pX M56 o0 pb pn := K55.same (sA_f A61 (by decide)) (sF_f V62 (by decide))
  clear z53 z45 z46 z49 z50 z51 z52
  refine mv_aload_n d_TrustDeskModel_starts_20 rfl rfl ?_
  refine mv_iconst (v := 0) d_TrustDeskModel_starts_21 (by decide) ?_
  refine tr_putR (k := 24) I57 R60 h_o0 rfl ⟨_, rfl⟩ (fun _ h => by cases h) rfl (fun lo hi h => by cases h; have e9 : (0 : Int32).toInt = 0 := (by decide); exact ⟨by show (0 : Int) ≤ (0 : Int32).toInt; omega, by show (0 : Int32).toInt ≤ (6 : Int); omega⟩) (Or.inl (by decide)) d_TrustDeskModel_starts_22 p_TrustDeskModel_321_13 rfl rfl (fun M74 I75 q76 K77 R78 A79 V80 => ?_)
  have z81 := (V80 15 (by decide)).trans z63
  have z82 := (V80 16 (by decide)).trans z64
  have z83 := (V80 17 (by decide)).trans z65
  have z84 := (V80 19 (by decide)).trans z66
  have z85 := (V80 22 (by decide)).trans z71
  have z86 := (V80 23 (by decide)).trans z68
  have z87 := (A79 5 (by decide) 44).trans z69
  have z88 := (A79 6 (by decide) 44).trans z70
  have z89 : rv M74 o0 24 = 0 := tm_rv q76
  have K90 : ∀ i : Nat, i ≠ 44 → ra M74 o0 6 i = ra M0 o0 6 i := (by have e9 := ((sA_f A79 (by decide)) : sA [6] _ _ _) 6 rfl; rw [e9]; exact K72)
  have K91 : pX M74 o0 pb pn := K73.same (sA_f A79 (by decide)) (sF_f V80 (by decide))
  clear z63 z64 z65 z71 z68 z69 z70
  refine mv_aload_n d_TrustDeskModel_starts_25 rfl rfl ?_
  obtain ⟨a93, q92, t_a93⟩ := tm_atR I75 h_o0 (k := 5) rfl
  refine tr_getK q92 d_TrustDeskModel_starts_26 f_TrustDeskModel_20_13 ?_
  refine mv_bipush (v := 44) d_TrustDeskModel_starts_29 (by decide) ?_
  refine mv_iconst (v := 0) d_TrustDeskModel_starts_31 (by decide) ?_
  refine tr_iastR (k := 5) I75 R78 (I75.up h_o0) q92 t_a93 (by decide) (by decide) (fun lo hi h => by cases h; have e9 : (0 : Int32).toInt = 0 := (by decide); exact ⟨by show (0 : Int) ≤ (0 : Int32).toInt; omega, by show (0 : Int32).toInt ≤ (400 : Int); omega⟩) (Or.inl (by decide)) d_TrustDeskModel_starts_32 (by unfold vp_in; decide) (fun M94 I95 K96 R97 E98 A99 V100 => ?_)
  have z101 := (V100 15).trans z81
  have z102 := (V100 16).trans z82
  have z103 := (V100 17).trans z83
  have z104 := (V100 19).trans z84
  have z105 := (V100 22).trans z85
  have z106 := (V100 24).trans z89
  have z107 := (V100 23).trans z86
  have z108 := (A99 6 (by decide) rfl 44).trans z88
  have z109 : ra M94 o0 5 44 = 0 := (E98 44).trans (if_pos (by decide))
  have K110 : ∀ i : Nat, i ≠ 44 → ra M94 o0 6 i = ra M0 o0 6 i := (by have e9 := ((sA_a A99 (by decide +kernel)) : sA [6] _ _ _) 6 rfl; rw [e9]; exact K90)
  have K111 : pX M94 o0 pb pn := K91.same (sA_a A99 (by decide +kernel)) (sF_a V100)
  clear z81 z82 z83 z85 z89 z86 z88
  refine mv_aload_n d_TrustDeskModel_starts_33 rfl rfl ?_
  obtain ⟨a113, q112, t_a113⟩ := tm_atR I95 h_o0 (k := 6) rfl
  refine tr_getK q112 d_TrustDeskModel_starts_34 f_TrustDeskModel_23_13 ?_
  refine mv_bipush (v := 44) d_TrustDeskModel_starts_37 (by decide) ?_
  refine mv_iconst (v := 0) d_TrustDeskModel_starts_39 (by decide) ?_
  refine tr_iastR (k := 6) I95 R97 (I95.up h_o0) q112 t_a113 (by decide) (by decide) (fun lo hi h => by cases h; have e9 : (0 : Int32).toInt = 0 := (by decide); exact ⟨by show (0 : Int) ≤ (0 : Int32).toInt; omega, by show (0 : Int32).toInt ≤ (20 : Int); omega⟩) (Or.inl (by decide)) d_TrustDeskModel_starts_40 (by unfold vp_in; decide) (fun M114 I115 K116 R117 E118 A119 V120 => ?_)
  have z121 := (V120 15).trans z101
  have z122 := (V120 16).trans z102
  have z123 := (V120 17).trans z103
  have z124 := (V120 19).trans z104
  have z125 := (V120 22).trans z105
  have z126 := (V120 24).trans z106
  have z127 := (V120 23).trans z107
  have z128 := (A119 5 (by decide) rfl 44).trans z109
  have z129 : ra M114 o0 6 44 = 0 := (E118 44).trans (if_pos (by decide))
  have K130 : ∀ i : Nat, i ≠ 44 → ra M114 o0 6 i = ra M0 o0 6 i := (fun i h9 => (E118 i).trans ((if_neg (by rw [show (44 : Int32).toNatClampNeg = 44 from by decide]; exact h9)).trans (K110 i h9)))
  have K131 : pX M114 o0 pb pn := K111.same (sA_a A119 (by decide +kernel)) (sF_a V120)
  clear z101 z102 z103 z105 z106 z107 z109
  refine mv_aload_n d_TrustDeskModel_starts_41 rfl rfl ?_
  obtain ⟨_, b138, -⟩ := I115.1 _ _ h_o0
  refine mv_callV (kc' := 0) (ks' := 0) (As := []) (st9 := [.ref o0]) d_TrustDeskModel_starts_42 lV_TrustDeskModel_237 b138 rfl (tc_TrustDeskModel_next_x (d := d) (x9 := x9) (o0 := o0) h_o0 R117 (pX.start (na := (if x1.toInt = 0 then (10 : Int) else 13)) K131 (if h9 : x1.toInt = 0 then Or.inl ⟨by have := R117.1 15 _ _ rfl; have := R117.1 16 _ _ rfl; have := R117.1 19 _ _ rfl; omega, if_pos h9⟩ else Or.inr ⟨by have := R117.1 15 _ _ rfl; have := R117.1 16 _ _ rfl; have := R117.1 19 _ _ rfl; omega, if_neg h9⟩) (by have := R117.1 15 _ _ rfl; have := R117.1 16 _ _ rfl; have := R117.1 19 _ _ rfl; omega) (by have := R117.1 15 _ _ rfl; have := R117.1 16 _ _ rfl; have := R117.1 19 _ _ rfl; omega)) I115.start) rfl (Nat.le_of_ble_eq_true rfl) (Nat.le_of_ble_eq_true rfl) (Nat.le_of_ble_eq_true rfl) (hst := rfl) (fun b132r M133 n134 b132 => ?_)
  obtain ⟨T135, J136, rfl, R139, f140, f141, f142⟩ := b132
  have I137 := I115.call J136 (tm_sub (by decide)) (Or.inl rfl)
  have t143 := J136.up h_o0
  have z144 := (rv_c I115 J136 (I115.up h_o0) (k := 19) rfl).trans z124
  have z145 := (rv_c I115 J136 (I115.up h_o0) (k := 22) rfl).trans z125
  have z146 := (rv_c I115 J136 (I115.up h_o0) (k := 24) rfl).trans z126
  have z147 := (rv_c I115 J136 (I115.up h_o0) (k := 23) rfl).trans z127
  have z148 := (ra_call I115 J136 (I115.up h_o0) (k := 5) rfl rfl rfl 44).trans z128
  have z149 := (ra_call I115 J136 (I115.up h_o0) (k := 6) rfl rfl rfl 44).trans z129
  have K150 : ∀ i : Nat, i ≠ 44 → ra M133 o0 6 i = ra M0 o0 6 i := (by have e9 := ((sA_c I115 J136 (I115.up h_o0) (by decide +kernel)) : sA [6] _ _ _) 6 rfl; rw [e9]; exact K130)
  have K151 : pX M133 o0 pb pn := K131.same (sA_c I115 J136 (I115.up h_o0) (by decide +kernel)) (sF_c I115 J136 (I115.up h_o0) (by decide +kernel))
  clear z125 z126 z127 z128 z129
  have q152 := J136.keep h_o0 (by decide) (K116 _ 13 23 _ (K96 _ 13 23 _ (K77 _ 13 23 _ rfl (K59 _ 13 23 _ rfl (K41 _ 13 23 _ rfl (K23 _ 13 23 _ rfl q4))))))
  have q153 := J136.keep h_o0 (by decide) (K116 _ 13 19 _ (K96 _ 13 19 _ (K77 _ 13 19 _ rfl (K59 _ 13 19 _ rfl (K41 _ 13 19 _ rfl q22)))))
  have q154 := J136.keep h_o0 (by decide) (K116 _ 13 22 _ (K96 _ 13 22 _ (K77 _ 13 22 _ rfl q58)))
  have q155 := J136.keep h_o0 (by decide) (K116 _ 13 24 _ (K96 _ 13 24 _ q76))
  have q156 := J136.keep h_o0 (by decide) (K116 _ 13 5 _ (K96 _ 13 5 _ q92))
  have t157 := J136.up t_a93
  have q158 := J136.keep h_o0 (by decide) (K116 _ 13 6 _ q112)
  have t159 := J136.up t_a113
  exact mv_vret d_TrustDeskModel_starts_45 rfl ⟨_, I137, rfl, R139, f140, (by have := R139.1 15 _ _ rfl; have := R139.1 16 _ _ rfl; have := R139.1 19 _ _ rfl; omega), (by have := R139.1 15 _ _ rfl; have := R139.1 16 _ _ rfl; have := R139.1 19 _ _ rfl; omega), (by have := R139.1 15 _ _ rfl; have := R139.1 16 _ _ rfl; have := R139.1 19 _ _ rfl; omega), (by have := R139.1 15 _ _ rfl; have := R139.1 16 _ _ rfl; have := R139.1 19 _ _ rfl; omega), (by have := R139.1 15 _ _ rfl; have := R139.1 16 _ _ rfl; have := R139.1 19 _ _ rfl; omega), f142, K150⟩
def w_TrustDeskModel_stops_a : List Nat := [1314, 1321, 20004, 20005, 20006, 20007, 20008, 20009, 20010, 20011, 20012]
set_option maxHeartbeats 100000000 in theorem tc_TrustDeskModel_stops_a {g : mj_G} {l : Launch} {d : Nat} {T0 : tm_H} {M0 : mj_M} {n0 x9 : Nat} {o0 : Nat} {x1 : Int32} (h_o0 : T0 o0 = some (0, 13, 0)) (yR : rI M0 o0) (yx : 0 ≤ x1.toInt ∧ x1.toInt ≤ 43) {pb : Nat → Int} {pn : Nat} {pa : Int} {ps : p_S} (yO : pO M0 o0 pb pn pa ps) (I0 : tm_I tm_FT (tm_in w_TrustDeskModel_stops_a) x9 T0 M0 n0 T0 M0 n0) : mj_Met g l kY_TrustDeskModel_stops (d + 1) [.ref o0, .int x1] M0 n0 0 0 (tm_Q tm_FT (tm_in w_TrustDeskModel_stops_a) x9 T0 M0 n0 (fun r _ M => ∃ v : Int32, r = some (.int v) ∧ rI M o0 ∧ (rv M0 o0 19 ≠ 0 → v.toInt < 0 ∧ sA [4, 7, 8, 10, 11, 12] M0 M o0) ∧ (rv M0 o0 19 = 0 → v.toInt = 0 ∧ rcp M0 M o0 4 18480 (420 * x1.toNatClampNeg) (ra M0 o0 5 44) ∧ rcp M0 M o0 7 880 (20 * x1.toNatClampNeg) (ra M0 o0 6 44) ∧ rcp M0 M o0 8 880 (20 * x1.toNatClampNeg) (ra M0 o0 6 44) ∧ rcp M0 M o0 10 880 (20 * x1.toNatClampNeg) (ra M0 o0 6 44) ∧ rcp M0 M o0 11 880 (20 * x1.toNatClampNeg) (ra M0 o0 6 44) ∧ rcp M0 M o0 12 880 (20 * x1.toNatClampNeg) (ra M0 o0 6 44) ∧ ra M o0 6 x1.toNatClampNeg = ra M0 o0 6 44) ∧ (rv M o0 14 = 0) ∧ (ps.1 = 0 → rv M o0 21 = -1 ∧ v.toInt = 0) ∧ (ps.1 ≠ 0 → rv M o0 21 = (ps.2.1 : Int) ∧ v.toInt = -1 - ps.1) ∧ (∀ i : Nat, i ≠ x1.toNatClampNeg → ra M o0 6 i = ra M0 o0 6 i))) := by
  refine mj_enter (by decide) (Nat.le_of_ble_eq_true rfl) ?_
  have K1 : rcp M0 M0 o0 4 18480 (420 * x1.toNatClampNeg) 0 := rcp.rf
  have K2 : rcp M0 M0 o0 7 880 (20 * x1.toNatClampNeg) 0 := rcp.rf
  have K3 : rcp M0 M0 o0 8 880 (20 * x1.toNatClampNeg) 0 := rcp.rf
  have K4 : rcp M0 M0 o0 10 880 (20 * x1.toNatClampNeg) 0 := rcp.rf
  have K5 : rcp M0 M0 o0 11 880 (20 * x1.toNatClampNeg) 0 := rcp.rf
  have K6 : rcp M0 M0 o0 12 880 (20 * x1.toNatClampNeg) 0 := rcp.rf
  have K7 : sA [4, 7, 8, 10, 11, 12] M0 M0 o0 := sA.rf
  have K8 : ∀ i : Nat, i ≠ x1.toNatClampNeg → ra M0 o0 6 i = ra M0 o0 6 i := (fun _ _ => rfl)
  have := yR.2 5 _ _ rfl 44
  have := yR.2 6 _ _ rfl 44
  have yW := Im.i yO.w
  have yF := Im.i yO.2.2.1
  refine mv_aload_n d_TrustDeskModel_stops_0 rfl rfl ?_
  refine mv_iconst (v := 0) d_TrustDeskModel_stops_1 (by decide) ?_
  refine tr_putR (k := 14) I0 yR h_o0 rfl ⟨_, rfl⟩ (fun _ h => by cases h) rfl (fun lo hi h => by cases h; have e9 : (0 : Int32).toInt = 0 := (by decide); exact ⟨by show (0 : Int) ≤ (0 : Int32).toInt; omega, by show (0 : Int32).toInt ≤ (400 : Int); omega⟩) (Or.inl (by decide)) d_TrustDeskModel_stops_2 p_TrustDeskModel_189_13 rfl rfl (fun M9 I10 q11 K12 R13 A14 V15 => ?_)
  have z16 := (V15 19 (by decide))
  have z17 := (V15 20 (by decide))
  have z18 := (V15 21 (by decide))
  have z19 := (A14 5 (by decide) 44)
  have z20 := (A14 6 (by decide) 44)
  have z21 : rv M9 o0 14 = 0 := tm_rv q11
  have K22 : rcp M0 M9 o0 4 18480 (420 * x1.toNatClampNeg) 0 := K1.same (((sA_f A14 (by decide)) : sA [4] _ _ _) 4 rfl)
  have K23 : rcp M0 M9 o0 7 880 (20 * x1.toNatClampNeg) 0 := K2.same (((sA_f A14 (by decide)) : sA [7] _ _ _) 7 rfl)
  have K24 : rcp M0 M9 o0 8 880 (20 * x1.toNatClampNeg) 0 := K3.same (((sA_f A14 (by decide)) : sA [8] _ _ _) 8 rfl)
  have K25 : rcp M0 M9 o0 10 880 (20 * x1.toNatClampNeg) 0 := K4.same (((sA_f A14 (by decide)) : sA [10] _ _ _) 10 rfl)
  have K26 : rcp M0 M9 o0 11 880 (20 * x1.toNatClampNeg) 0 := K5.same (((sA_f A14 (by decide)) : sA [11] _ _ _) 11 rfl)
  have K27 : rcp M0 M9 o0 12 880 (20 * x1.toNatClampNeg) 0 := K6.same (((sA_f A14 (by decide)) : sA [12] _ _ _) 12 rfl)
  have K28 : sA [4, 7, 8, 10, 11, 12] M0 M9 o0 := K7.trans (sA_f A14 (by decide))
  have K29 : ∀ i : Nat, i ≠ x1.toNatClampNeg → ra M9 o0 6 i = ra M0 o0 6 i := (by have e9 := ((sA_f A14 (by decide)) : sA [6] _ _ _) 6 rfl; rw [e9]; exact K8)
  refine mv_aload_n d_TrustDeskModel_stops_5 rfl rfl ?_
  refine mv_aload_n d_TrustDeskModel_stops_6 rfl rfl ?_
  obtain ⟨_, b30, -⟩ := I10.1 _ _ h_o0
  refine mv_callV (kc1 := 0) (ks1 := 0) (kc' := 0) (ks' := 0) (As := []) (st9 := [.ref o0, .ref o0]) d_TrustDeskModel_stops_7 lV_TrustDeskModel_230 b30 rfl (mj_enter (by decide) (Nat.le_of_ble_eq_true rfl) ?_) rfl (Nat.le_of_ble_eq_true rfl) (Nat.le_of_ble_eq_true rfl) (Nat.le_of_ble_eq_true rfl) (hst := rfl) (fun _ _ _ h => h)
  refine mv_aload_n d_TrustDeskModel_isWell_0 rfl rfl ?_
  obtain ⟨v32, q31⟩ := tm_atI I10 h_o0 (k := 19) rfl
  refine tr_getK q31 d_TrustDeskModel_isWell_1 f_TrustDeskModel_224_13 ?_
  have := R13.f (k := 19) q31 rfl
  have := (tm_rv q31).symm.trans z16
  have := tm_rv q31
  have := mz_hi v32
  refine mv_if_neZ (tgt := 11) (a := v32.toInt) d_TrustDeskModel_isWell_4 (by decide) rfl (fun b33 => ?_) (fun b33 => ?_)
  · refine mv_iconst (v := 0) d_TrustDeskModel_isWell_11 (by decide) ?_
    refine mv_iret d_TrustDeskModel_isWell_12 rfl (by decide) ?_
    refine mv_if_eq_t (tgt := 17) d_TrustDeskModel_stops_10 (by decide) (by decide) ?_
    refine mv_aload_n d_TrustDeskModel_stops_17 rfl rfl ?_
    obtain ⟨v35, q34⟩ := tm_atI I10 h_o0 (k := 20) rfl
    refine tr_getK q34 d_TrustDeskModel_stops_18 f_TrustDeskModel_227_13 ?_
    have := (tm_rv q34).symm.trans z17
    have := tm_rv q34
    refine tr_putR (k := 21) I10 R13 h_o0 rfl ⟨_, rfl⟩ (fun _ h => by cases h) rfl (fun lo hi h => by cases h) (Or.inl (by decide)) d_TrustDeskModel_stops_21 p_TrustDeskModel_48_13 rfl rfl (fun M36 I37 q38 K39 R40 A41 V42 => ?_)
    have z43 := (V42 14 (by decide)).trans z21
    have z44 := (V42 19 (by decide)).trans z16
    have z45 := (V42 20 (by decide)).trans z17
    have z46 := (A41 5 (by decide) 44).trans z19
    have z47 := (A41 6 (by decide) 44).trans z20
    have z48 : rv M36 o0 21 = v35.toInt := tm_rv q38
    have K49 : rcp M0 M36 o0 4 18480 (420 * x1.toNatClampNeg) 0 := K22.same (((sA_f A41 (by decide)) : sA [4] _ _ _) 4 rfl)
    have K50 : rcp M0 M36 o0 7 880 (20 * x1.toNatClampNeg) 0 := K23.same (((sA_f A41 (by decide)) : sA [7] _ _ _) 7 rfl)
    have K51 : rcp M0 M36 o0 8 880 (20 * x1.toNatClampNeg) 0 := K24.same (((sA_f A41 (by decide)) : sA [8] _ _ _) 8 rfl)
    have K52 : rcp M0 M36 o0 10 880 (20 * x1.toNatClampNeg) 0 := K25.same (((sA_f A41 (by decide)) : sA [10] _ _ _) 10 rfl)
    have K53 : rcp M0 M36 o0 11 880 (20 * x1.toNatClampNeg) 0 := K26.same (((sA_f A41 (by decide)) : sA [11] _ _ _) 11 rfl)
    have K54 : rcp M0 M36 o0 12 880 (20 * x1.toNatClampNeg) 0 := K27.same (((sA_f A41 (by decide)) : sA [12] _ _ _) 12 rfl)
    have K55 : sA [4, 7, 8, 10, 11, 12] M0 M36 o0 := K28.trans (sA_f A41 (by decide))
    have K56 : ∀ i : Nat, i ≠ x1.toNatClampNeg → ra M36 o0 6 i = ra M0 o0 6 i := (by have e9 := ((sA_f A41 (by decide)) : sA [6] _ _ _) 6 rfl; rw [e9]; exact K29)
    clear z21 z17 z19 z20
    refine mv_aload_n d_TrustDeskModel_stops_24 rfl rfl ?_
    obtain ⟨_, b57, -⟩ := I37.1 _ _ h_o0
    refine mv_callV (kc1 := 0) (ks1 := 0) (kc' := 0) (ks' := 0) (As := []) (st9 := [.ref o0]) d_TrustDeskModel_stops_25 lV_TrustDeskModel_230 b57 rfl (mj_enter (by decide) (Nat.le_of_ble_eq_true rfl) ?_) rfl (Nat.le_of_ble_eq_true rfl) (Nat.le_of_ble_eq_true rfl) (Nat.le_of_ble_eq_true rfl) (hst := rfl) (fun _ _ _ h => h)
    refine mv_aload_n d_TrustDeskModel_isWell_0 rfl rfl ?_
    refine tr_getK (k := 19) (K39 _ 13 19 _ rfl q31) d_TrustDeskModel_isWell_1 f_TrustDeskModel_224_13 ?_
    have := mz_hi v32
    refine mv_if_neZ (tgt := 11) (a := v32.toInt) d_TrustDeskModel_isWell_4 (by decide) rfl (fun b58 => ?_) (fun b58 => absurd b58 (by omega))
    refine mv_iconst (v := 0) d_TrustDeskModel_isWell_11 (by decide) ?_
    refine mv_iret d_TrustDeskModel_isWell_12 rfl (by decide) ?_
    refine mv_if_ne_f (tgt := 38) d_TrustDeskModel_stops_28 (by decide) (by decide) ?_
    refine mv_iconst (v := (-1)) d_TrustDeskModel_stops_31 (by decide) ?_
    refine mv_aload_n d_TrustDeskModel_stops_32 rfl rfl ?_
    refine tr_getK (k := 19) (K39 _ 13 19 _ rfl q31) d_TrustDeskModel_stops_33 f_TrustDeskModel_224_13 ?_
    refine mv_isub d_TrustDeskModel_stops_36 ?_
    have b59 : ((-1) - v32 : Int32).toInt = ((-1) - v32.toInt) := mz_sub2 (by decide) rfl (by omega) (by omega)
    generalize ((-1) - v32 : Int32) = w9b59 at b59 ⊢
    exact mv_iret d_TrustDeskModel_stops_37 rfl (by first | rfl | decide) ⟨_, I37, _, rfl, R40, (fun _ => ⟨(by omega), K55⟩), (fun h9 => by exfalso; omega), (by omega), ((fun (h8 : rv M0 o0 19 ≠ 0) (z9 : ps.1 = 0) => absurd ((Im.o yW).trans z9) h8) (by omega)), ((fun (h8 : rv M36 o0 21 = rv M0 o0 20) (h7 : _ = -1 - rv M0 o0 19) (z9 : ps.1 ≠ 0) => ⟨h8.trans (Im.o yF z9), h7.trans (congrArg (fun q => -1 - q) (Im.o yW))⟩) (by omega) (by omega)), K56⟩
  · refine mv_iconst (v := 1) d_TrustDeskModel_isWell_7 (by decide) ?_
    refine mv_goto (tgt := 12) d_TrustDeskModel_isWell_8 (by decide) ?_
    refine mv_iret d_TrustDeskModel_isWell_12 rfl (by decide) ?_
    refine mv_if_eq_f (tgt := 17) d_TrustDeskModel_stops_10 (by decide) (by decide) ?_
    refine mv_iconst (v := (-1)) d_TrustDeskModel_stops_13 (by decide) ?_
    refine mv_goto (tgt := 21) d_TrustDeskModel_stops_14 (by decide) ?_
    refine tr_putR (k := 21) I10 R13 h_o0 rfl ⟨_, rfl⟩ (fun _ h => by cases h) rfl (fun lo hi h => by cases h) (Or.inl (by decide)) d_TrustDeskModel_stops_21 p_TrustDeskModel_48_13 rfl rfl (fun M60 I61 q62 K63 R64 A65 V66 => ?_)
    have z67 := (V66 14 (by decide)).trans z21
    have z68 := (V66 19 (by decide)).trans z16
    have z69 := (V66 20 (by decide)).trans z17
    have z70 := (A65 5 (by decide) 44).trans z19
    have z71 := (A65 6 (by decide) 44).trans z20
    have z72 : rv M60 o0 21 = (-1) := tm_rv q62
    have K73 : rcp M0 M60 o0 4 18480 (420 * x1.toNatClampNeg) 0 := K22.same (((sA_f A65 (by decide)) : sA [4] _ _ _) 4 rfl)
    have K74 : rcp M0 M60 o0 7 880 (20 * x1.toNatClampNeg) 0 := K23.same (((sA_f A65 (by decide)) : sA [7] _ _ _) 7 rfl)
    have K75 : rcp M0 M60 o0 8 880 (20 * x1.toNatClampNeg) 0 := K24.same (((sA_f A65 (by decide)) : sA [8] _ _ _) 8 rfl)
    have K76 : rcp M0 M60 o0 10 880 (20 * x1.toNatClampNeg) 0 := K25.same (((sA_f A65 (by decide)) : sA [10] _ _ _) 10 rfl)
    have K77 : rcp M0 M60 o0 11 880 (20 * x1.toNatClampNeg) 0 := K26.same (((sA_f A65 (by decide)) : sA [11] _ _ _) 11 rfl)
    have K78 : rcp M0 M60 o0 12 880 (20 * x1.toNatClampNeg) 0 := K27.same (((sA_f A65 (by decide)) : sA [12] _ _ _) 12 rfl)
    have K79 : sA [4, 7, 8, 10, 11, 12] M0 M60 o0 := K28.trans (sA_f A65 (by decide))
    have K80 : ∀ i : Nat, i ≠ x1.toNatClampNeg → ra M60 o0 6 i = ra M0 o0 6 i := (by have e9 := ((sA_f A65 (by decide)) : sA [6] _ _ _) 6 rfl; rw [e9]; exact K29)
    clear z21 z17 z19 z20
    refine mv_aload_n d_TrustDeskModel_stops_24 rfl rfl ?_
    obtain ⟨_, b81, -⟩ := I61.1 _ _ h_o0
    refine mv_callV (kc1 := 0) (ks1 := 0) (kc' := 0) (ks' := 0) (As := []) (st9 := [.ref o0]) d_TrustDeskModel_stops_25 lV_TrustDeskModel_230 b81 rfl (mj_enter (by decide) (Nat.le_of_ble_eq_true rfl) ?_) rfl (Nat.le_of_ble_eq_true rfl) (Nat.le_of_ble_eq_true rfl) (Nat.le_of_ble_eq_true rfl) (hst := rfl) (fun _ _ _ h => h)
    refine mv_aload_n d_TrustDeskModel_isWell_0 rfl rfl ?_
    refine tr_getK (k := 19) (K63 _ 13 19 _ rfl q31) d_TrustDeskModel_isWell_1 f_TrustDeskModel_224_13 ?_
    have := mz_hi v32
    refine mv_if_neZ (tgt := 11) (a := v32.toInt) d_TrustDeskModel_isWell_4 (by decide) rfl (fun b82 => absurd b82 (by omega)) (fun b82 => ?_)
    refine mv_iconst (v := 1) d_TrustDeskModel_isWell_7 (by decide) ?_
    refine mv_goto (tgt := 12) d_TrustDeskModel_isWell_8 (by decide) ?_
    refine mv_iret d_TrustDeskModel_isWell_12 rfl (by decide) ?_
    refine mv_if_ne_t (tgt := 38) d_TrustDeskModel_stops_28 (by decide) (by decide) ?_
    refine mv_aload_n d_TrustDeskModel_stops_38 rfl rfl ?_
    obtain ⟨a84, q83, t_a84⟩ := tm_atR I61 h_o0 (k := 5) rfl
    refine tr_getK q83 d_TrustDeskModel_stops_39 f_TrustDeskModel_20_13 ?_
    refine mv_iload_n d_TrustDeskModel_stops_42 rfl rfl ?_
    refine mv_aload_n d_TrustDeskModel_stops_43 rfl rfl ?_
    refine tr_getK (k := 5) q83 d_TrustDeskModel_stops_44 f_TrustDeskModel_20_13 ?_
    refine mv_bipush (v := 44) d_TrustDeskModel_stops_47 (by decide) ?_
    refine tr_ialdR (o := o0) (k := 5) I61 q83 t_a84 (by decide) d_TrustDeskModel_stops_49 (by unfold vp_in; decide) (fun v85 e86 => ?_)
    have := R64.a (k := 5) rfl (44 : Int32).toNatClampNeg
    have : v85.toInt = ra M60 o0 5 44 := e86
    have : v85.toInt = _ := Eq.trans e86 z70
    refine tr_iastR (k := 5) I61 R64 (I61.up h_o0) q83 t_a84 (by decide) (by decide) (fun lo hi h => by cases h; exact ⟨by show (0 : Int) ≤ v85.toInt; omega, by show v85.toInt ≤ (400 : Int); omega⟩) (Or.inl (by decide)) d_TrustDeskModel_stops_50 (vp_in_iff.mpr (by omega)) (fun M87 I88 K89 R90 E91 A92 V93 => ?_)
    have z94 := (V93 14).trans z67
    have z95 := (V93 19).trans z68
    have z96 := (V93 20).trans z69
    have z97 := (V93 21).trans z72
    have z98 := ((E91 44).trans (if_neg (by have := mz_nat9 (i := x1) (by omega); omega))).trans z70
    have z99 := (A92 6 (by decide) rfl 44).trans z71
    have K100 : rcp M0 M87 o0 4 18480 (420 * x1.toNatClampNeg) 0 := K73.same (((sA_a A92 (by decide +kernel)) : sA [4] _ _ _) 4 rfl)
    have K101 : rcp M0 M87 o0 7 880 (20 * x1.toNatClampNeg) 0 := K74.same (((sA_a A92 (by decide +kernel)) : sA [7] _ _ _) 7 rfl)
    have K102 : rcp M0 M87 o0 8 880 (20 * x1.toNatClampNeg) 0 := K75.same (((sA_a A92 (by decide +kernel)) : sA [8] _ _ _) 8 rfl)
    have K103 : rcp M0 M87 o0 10 880 (20 * x1.toNatClampNeg) 0 := K76.same (((sA_a A92 (by decide +kernel)) : sA [10] _ _ _) 10 rfl)
    have K104 : rcp M0 M87 o0 11 880 (20 * x1.toNatClampNeg) 0 := K77.same (((sA_a A92 (by decide +kernel)) : sA [11] _ _ _) 11 rfl)
    have K105 : rcp M0 M87 o0 12 880 (20 * x1.toNatClampNeg) 0 := K78.same (((sA_a A92 (by decide +kernel)) : sA [12] _ _ _) 12 rfl)
    have K106 : sA [4, 7, 8, 10, 11, 12] M0 M87 o0 := K79.trans (sA_a A92 (by decide +kernel))
    have K107 : ∀ i : Nat, i ≠ x1.toNatClampNeg → ra M87 o0 6 i = ra M0 o0 6 i := (by have e9 := ((sA_a A92 (by decide +kernel)) : sA [6] _ _ _) 6 rfl; rw [e9]; exact K80)
    clear z67 z69 z72 z70 z71
    refine mv_aload_n d_TrustDeskModel_stops_51 rfl rfl ?_
    obtain ⟨a109, q108, t_a109⟩ := tm_atR I88 h_o0 (k := 6) rfl
    refine tr_getK q108 d_TrustDeskModel_stops_52 f_TrustDeskModel_23_13 ?_
    refine mv_iload_n d_TrustDeskModel_stops_55 rfl rfl ?_
    refine mv_aload_n d_TrustDeskModel_stops_56 rfl rfl ?_
    refine tr_getK (k := 6) q108 d_TrustDeskModel_stops_57 f_TrustDeskModel_23_13 ?_
    refine mv_bipush (v := 44) d_TrustDeskModel_stops_60 (by decide) ?_
    refine tr_ialdR (o := o0) (k := 6) I88 q108 t_a109 (by decide) d_TrustDeskModel_stops_62 (by unfold vp_in; decide) (fun v110 e111 => ?_)
    have := R90.a (k := 6) rfl (44 : Int32).toNatClampNeg
    have : v110.toInt = ra M87 o0 6 44 := e111
    have : v110.toInt = _ := Eq.trans e111 z99
    refine tr_iastR (k := 6) I88 R90 (I88.up h_o0) q108 t_a109 (by decide) (by decide) (fun lo hi h => by cases h; exact ⟨by show (0 : Int) ≤ v110.toInt; omega, by show v110.toInt ≤ (20 : Int); omega⟩) (Or.inl (by decide)) d_TrustDeskModel_stops_63 (vp_in_iff.mpr (by omega)) (fun M112 I113 K114 R115 E116 A117 V118 => ?_)
    have z119 := (V118 14).trans z94
    have z120 := (V118 19).trans z95
    have z121 := (V118 20).trans z96
    have z122 := (V118 21).trans z97
    have z123 := (A117 5 (by decide) rfl 44).trans z98
    have z124 := ((E116 44).trans (if_neg (by have := mz_nat9 (i := x1) (by omega); omega))).trans z99
    have h125 : x1.toNatClampNeg = x1.toNatClampNeg := rfl
    have z126 : ra M112 o0 6 x1.toNatClampNeg = v110.toInt := (E116 _).trans (if_pos h125)
    have K127 : rcp M0 M112 o0 4 18480 (420 * x1.toNatClampNeg) 0 := K100.same (((sA_a A117 (by decide +kernel)) : sA [4] _ _ _) 4 rfl)
    have K128 : rcp M0 M112 o0 7 880 (20 * x1.toNatClampNeg) 0 := K101.same (((sA_a A117 (by decide +kernel)) : sA [7] _ _ _) 7 rfl)
    have K129 : rcp M0 M112 o0 8 880 (20 * x1.toNatClampNeg) 0 := K102.same (((sA_a A117 (by decide +kernel)) : sA [8] _ _ _) 8 rfl)
    have K130 : rcp M0 M112 o0 10 880 (20 * x1.toNatClampNeg) 0 := K103.same (((sA_a A117 (by decide +kernel)) : sA [10] _ _ _) 10 rfl)
    have K131 : rcp M0 M112 o0 11 880 (20 * x1.toNatClampNeg) 0 := K104.same (((sA_a A117 (by decide +kernel)) : sA [11] _ _ _) 11 rfl)
    have K132 : rcp M0 M112 o0 12 880 (20 * x1.toNatClampNeg) 0 := K105.same (((sA_a A117 (by decide +kernel)) : sA [12] _ _ _) 12 rfl)
    have K133 : sA [4, 7, 8, 10, 11, 12] M0 M112 o0 := K106.trans (sA_a A117 (by decide +kernel))
    have K134 : ∀ i : Nat, i ≠ x1.toNatClampNeg → ra M112 o0 6 i = ra M0 o0 6 i := (fun i h9 => (E116 i).trans ((if_neg h9).trans (K107 i h9)))
    clear z94 z96 z97 z98 z99
    refine mv_iconst (v := 0) d_TrustDeskModel_stops_64 (by decide) ?_
    refine mv_istore_n (lv' := [(2, .int 0), (0, .ref o0), (1, .int x1)]) d_TrustDeskModel_stops_65 rfl (by decide) rfl ?_
    have L66_135 : ∀ (k : Nat) (i2_135 : Int32) (T_135 : tm_H) (M_135 : mj_M) (n_135 : Nat), tm_I tm_FT (tm_in w_TrustDeskModel_stops_a) x9 T0 M0 n0 T_135 M_135 n_135 → T_135 o0 = some (0, 13, 0) → 0 ≤ i2_135.toInt → rv M_135 o0 19 = rv M0 o0 19 → ra M_135 o0 5 44 = ra M0 o0 5 44 → ra M_135 o0 6 44 = ra M0 o0 6 44 → ra M_135 o0 6 x1.toNatClampNeg = ra M0 o0 6 44 → i2_135.toInt ≤ ra M0 o0 5 44 → rv M_135 o0 14 = 0 → rv M_135 o0 21 = -1 → (rI M_135 o0) → (rcp M0 M_135 o0 4 18480 (420 * x1.toNatClampNeg) i2_135.toInt) → (rcp M0 M_135 o0 7 880 (20 * x1.toNatClampNeg) 0) → (rcp M0 M_135 o0 8 880 (20 * x1.toNatClampNeg) 0) → (rcp M0 M_135 o0 10 880 (20 * x1.toNatClampNeg) 0) → (rcp M0 M_135 o0 11 880 (20 * x1.toNatClampNeg) 0) → (rcp M0 M_135 o0 12 880 (20 * x1.toNatClampNeg) 0) → (∀ i : Nat, i ≠ x1.toNatClampNeg → ra M_135 o0 6 i = ra M0 o0 6 i) → 2147483647 - i2_135.toInt < (k : Int) → mj_V g l kY_TrustDeskModel_stops (d + 1) 66 [(2, .int i2_135), (0, .ref o0), (1, .int x1)] [] M_135 n_135 0 0 (tm_Q tm_FT (tm_in w_TrustDeskModel_stops_a) x9 T0 M0 n0 (fun r _ M => ∃ v : Int32, r = some (.int v) ∧ rI M o0 ∧ (rv M0 o0 19 ≠ 0 → v.toInt < 0 ∧ sA [4, 7, 8, 10, 11, 12] M0 M o0) ∧ (rv M0 o0 19 = 0 → v.toInt = 0 ∧ rcp M0 M o0 4 18480 (420 * x1.toNatClampNeg) (ra M0 o0 5 44) ∧ rcp M0 M o0 7 880 (20 * x1.toNatClampNeg) (ra M0 o0 6 44) ∧ rcp M0 M o0 8 880 (20 * x1.toNatClampNeg) (ra M0 o0 6 44) ∧ rcp M0 M o0 10 880 (20 * x1.toNatClampNeg) (ra M0 o0 6 44) ∧ rcp M0 M o0 11 880 (20 * x1.toNatClampNeg) (ra M0 o0 6 44) ∧ rcp M0 M o0 12 880 (20 * x1.toNatClampNeg) (ra M0 o0 6 44) ∧ ra M o0 6 x1.toNatClampNeg = ra M0 o0 6 44) ∧ (rv M o0 14 = 0) ∧ (ps.1 = 0 → rv M o0 21 = -1 ∧ v.toInt = 0) ∧ (ps.1 ≠ 0 → rv M o0 21 = (ps.2.1 : Int) ∧ v.toInt = -1 - ps.1) ∧ (∀ i : Nat, i ≠ x1.toNatClampNeg → ra M o0 6 i = ra M0 o0 6 i))) := by
      intro k135
      induction k135 with
      | zero =>
        intro i2_135 T_135 M_135 n_135 I_135 h_q0_135 iv0_135 iv1_135 iv2_135 iv3_135 iv4_135 iv5_135 iv6_135 iv7_135 kKR_135 kKQ4_135 kKQ7_135 kKQ8_135 kKQ10_135 kKQ11_135 kKQ12_135 kKMs_135 hk135
        have := mz_hi i2_135
        have := kKR_135.1 15 _ _ rfl
        have := kKR_135.1 16 _ _ rfl
        have := kKR_135.1 19 _ _ rfl
        omega
      | succ k135 ih135 =>
        intro i2_135 T_135 M_135 n_135 I_135 h_q0_135 iv0_135 iv1_135 iv2_135 iv3_135 iv4_135 iv5_135 iv6_135 iv7_135 kKR_135 kKQ4_135 kKQ7_135 kKQ8_135 kKQ10_135 kKQ11_135 kKQ12_135 kKMs_135 hk135
        refine mv_iload_n d_TrustDeskModel_stops_66 rfl rfl ?_
        refine mv_aload_n d_TrustDeskModel_stops_67 rfl rfl ?_
        obtain ⟨a137, q136, t_a137⟩ := tm_atR I_135 h_q0_135 (k := 5) rfl
        refine tr_getK q136 d_TrustDeskModel_stops_68 f_TrustDeskModel_20_13 ?_
        refine mv_bipush (v := 44) d_TrustDeskModel_stops_71 (by decide) ?_
        refine tr_ialdR (o := o0) (k := 5) I_135 q136 t_a137 (by decide) d_TrustDeskModel_stops_73 (by unfold vp_in; decide) (fun v138 e139 => ?_)
        have := kKR_135.a (k := 5) rfl (44 : Int32).toNatClampNeg
        have : v138.toInt = ra M_135 o0 5 44 := e139
        have := mz_hi i2_135
        have := mz_hi v138
        refine mv_icmp_geZ (tgt := 105) (a := i2_135.toInt) (b := v138.toInt) d_TrustDeskModel_stops_74 (by decide) rfl rfl (fun b140 => ?_) (fun b140 => ?_)
        · refine mv_iconst (v := 0) d_TrustDeskModel_stops_105 (by decide) ?_
          refine mv_istore_n (lv' := [(2, .int 0), (0, .ref o0), (1, .int x1)]) d_TrustDeskModel_stops_106 rfl (by decide) rfl ?_
          have L107_141 : ∀ (k : Nat) (i2_141 : Int32) (T_141 : tm_H) (M_141 : mj_M) (n_141 : Nat), tm_I tm_FT (tm_in w_TrustDeskModel_stops_a) x9 T0 M0 n0 T_141 M_141 n_141 → T_141 o0 = some (0, 13, 0) → 0 ≤ i2_141.toInt → rv M_141 o0 19 = rv M0 o0 19 → ra M_141 o0 5 44 = ra M0 o0 5 44 → ra M_141 o0 6 44 = ra M0 o0 6 44 → ra M_141 o0 6 x1.toNatClampNeg = ra M0 o0 6 44 → i2_141.toInt ≤ ra M0 o0 6 44 → rv M_141 o0 14 = 0 → rv M_141 o0 21 = -1 → (rI M_141 o0) → (rcp M0 M_141 o0 4 18480 (420 * x1.toNatClampNeg) i2_135.toInt) → (rcp M0 M_141 o0 7 880 (20 * x1.toNatClampNeg) i2_141.toInt) → (rcp M0 M_141 o0 8 880 (20 * x1.toNatClampNeg) i2_141.toInt) → (rcp M0 M_141 o0 10 880 (20 * x1.toNatClampNeg) i2_141.toInt) → (rcp M0 M_141 o0 11 880 (20 * x1.toNatClampNeg) i2_141.toInt) → (rcp M0 M_141 o0 12 880 (20 * x1.toNatClampNeg) i2_141.toInt) → (∀ i : Nat, i ≠ x1.toNatClampNeg → ra M_141 o0 6 i = ra M0 o0 6 i) → 2147483647 - i2_141.toInt < (k : Int) → mj_V g l kY_TrustDeskModel_stops (d + 1) 107 [(2, .int i2_141), (0, .ref o0), (1, .int x1)] [] M_141 n_141 0 0 (tm_Q tm_FT (tm_in w_TrustDeskModel_stops_a) x9 T0 M0 n0 (fun r _ M => ∃ v : Int32, r = some (.int v) ∧ rI M o0 ∧ (rv M0 o0 19 ≠ 0 → v.toInt < 0 ∧ sA [4, 7, 8, 10, 11, 12] M0 M o0) ∧ (rv M0 o0 19 = 0 → v.toInt = 0 ∧ rcp M0 M o0 4 18480 (420 * x1.toNatClampNeg) (ra M0 o0 5 44) ∧ rcp M0 M o0 7 880 (20 * x1.toNatClampNeg) (ra M0 o0 6 44) ∧ rcp M0 M o0 8 880 (20 * x1.toNatClampNeg) (ra M0 o0 6 44) ∧ rcp M0 M o0 10 880 (20 * x1.toNatClampNeg) (ra M0 o0 6 44) ∧ rcp M0 M o0 11 880 (20 * x1.toNatClampNeg) (ra M0 o0 6 44) ∧ rcp M0 M o0 12 880 (20 * x1.toNatClampNeg) (ra M0 o0 6 44) ∧ ra M o0 6 x1.toNatClampNeg = ra M0 o0 6 44) ∧ (rv M o0 14 = 0) ∧ (ps.1 = 0 → rv M o0 21 = -1 ∧ v.toInt = 0) ∧ (ps.1 ≠ 0 → rv M o0 21 = (ps.2.1 : Int) ∧ v.toInt = -1 - ps.1) ∧ (∀ i : Nat, i ≠ x1.toNatClampNeg → ra M o0 6 i = ra M0 o0 6 i))) := by
            intro k141
            induction k141 with
            | zero =>
              intro i2_141 T_141 M_141 n_141 I_141 h_q0_141 iv0_141 iv1_141 iv2_141 iv3_141 iv4_141 iv5_141 iv6_141 iv7_141 kKR_141 kKQ4_141 kKQ7_141 kKQ8_141 kKQ10_141 kKQ11_141 kKQ12_141 kKMs_141 hk141
              have := mz_hi i2_141
              have := kKR_141.1 15 _ _ rfl
              have := kKR_141.1 16 _ _ rfl
              have := kKR_141.1 19 _ _ rfl
              omega
            | succ k141 ih141 =>
              intro i2_141 T_141 M_141 n_141 I_141 h_q0_141 iv0_141 iv1_141 iv2_141 iv3_141 iv4_141 iv5_141 iv6_141 iv7_141 kKR_141 kKQ4_141 kKQ7_141 kKQ8_141 kKQ10_141 kKQ11_141 kKQ12_141 kKMs_141 hk141
              refine mv_iload_n d_TrustDeskModel_stops_107 rfl rfl ?_
              refine mv_aload_n d_TrustDeskModel_stops_108 rfl rfl ?_
              obtain ⟨a143, q142, t_a143⟩ := tm_atR I_141 h_q0_141 (k := 6) rfl
              refine tr_getK q142 d_TrustDeskModel_stops_109 f_TrustDeskModel_23_13 ?_
              refine mv_bipush (v := 44) d_TrustDeskModel_stops_112 (by decide) ?_
              refine tr_ialdR (o := o0) (k := 6) I_141 q142 t_a143 (by decide) d_TrustDeskModel_stops_114 (by unfold vp_in; decide) (fun v144 e145 => ?_)
              have := kKR_141.a (k := 6) rfl (44 : Int32).toNatClampNeg
              have : v144.toInt = ra M_141 o0 6 44 := e145
              have := mz_hi i2_141
              have := mz_hi v144
              refine mv_icmp_geZ (tgt := 216) (a := i2_141.toInt) (b := v144.toInt) d_TrustDeskModel_stops_115 (by decide) rfl rfl (fun b146 => ?_) (fun b146 => ?_)
              · refine mv_iconst (v := 0) d_TrustDeskModel_stops_216 (by decide) ?_
                exact mv_iret d_TrustDeskModel_stops_217 rfl (by first | rfl | decide) ⟨_, I_141, _, rfl, kKR_141, (fun h9 => by exfalso; omega), (fun _ => ⟨by decide, kKQ4_141.cast (by omega), kKQ7_141.cast (by omega), kKQ8_141.cast (by omega), kKQ10_141.cast (by omega), kKQ11_141.cast (by omega), kKQ12_141.cast (by omega), (by omega)⟩), (by omega), ((fun (h8 : rv M_141 o0 21 = -1) (_ : ps.1 = 0) => ⟨h8, by decide⟩) (by omega)), ((fun (h8 : rv M0 o0 19 = 0) (z9 : ps.1 ≠ 0) => absurd ((Im.o yW).symm.trans h8) z9) (by omega)), kKMs_141⟩
              · refine mv_sipush (v := 880) d_TrustDeskModel_stops_118 (by decide) ?_
                refine mv_iload_n d_TrustDeskModel_stops_121 rfl rfl ?_
                refine mv_iadd d_TrustDeskModel_stops_122 ?_
                refine mv_istore_n (lv' := [(3, .int (880 + i2_141)), (2, .int i2_141), (0, .ref o0), (1, .int x1)]) d_TrustDeskModel_stops_123 rfl (by decide) rfl ?_
                refine mv_bipush (v := 20) d_TrustDeskModel_stops_124 (by decide) ?_
                refine mv_iload_n d_TrustDeskModel_stops_126 rfl rfl ?_
                refine mv_imul d_TrustDeskModel_stops_127 ?_
                refine mv_iload_n d_TrustDeskModel_stops_128 rfl rfl ?_
                refine mv_iadd d_TrustDeskModel_stops_129 ?_
                refine mv_istore (lv' := [(4, .int ((20 * x1) + i2_141)), (3, .int (880 + i2_141)), (2, .int i2_141), (0, .ref o0), (1, .int x1)]) d_TrustDeskModel_stops_130 (by decide) rfl ?_
                refine mv_aload_n d_TrustDeskModel_stops_132 rfl rfl ?_
                obtain ⟨a148, q147, t_a148⟩ := tm_atR I_141 h_q0_141 (k := 7) rfl
                refine tr_getK q147 d_TrustDeskModel_stops_133 f_TrustDeskModel_26_13 ?_
                refine mv_iload d_TrustDeskModel_stops_136 rfl ?_
                refine mv_aload_n d_TrustDeskModel_stops_138 rfl rfl ?_
                refine tr_getK (k := 7) q147 d_TrustDeskModel_stops_139 f_TrustDeskModel_26_13 ?_
                refine mv_iload_n d_TrustDeskModel_stops_142 rfl rfl ?_
                have b149 : (880 + i2_141 : Int32).toInt = (880 + i2_141.toInt) := mz_add2 (by decide) rfl (by omega) (by omega)
                refine tr_ialdR (o := o0) (k := 7) I_141 q147 t_a148 (by decide) d_TrustDeskModel_stops_143 (vp_in_iff.mpr (by omega)) (fun v150 e151 => ?_)
                have b152 : (20 * x1 : Int32).toInt = (20 * x1.toInt) := mz_mul2 (by decide) rfl (by omega) (by omega)
                have b153 : ((20 * x1) + i2_141 : Int32).toInt = ((20 * x1.toInt) + i2_141.toInt) := mz_add2 b152 rfl (by omega) (by omega)
                refine tr_iastR (k := 7) I_141 kKR_141 (I_141.up h_o0) q147 t_a148 (by decide) (by decide) (fun lo hi h => by cases h) (Or.inl (by decide)) d_TrustDeskModel_stops_144 (vp_in_iff.mpr (by omega)) (fun M154 I155 K156 R157 E158 A159 V160 => ?_)
                have z161 := (V160 14)
                have z162 := (V160 19)
                have z163 := (V160 20)
                have z164 := (V160 21)
                have z165 := (A159 5 (by decide) rfl 44)
                have z166 := (A159 6 (by decide) rfl 44)
                have z167 := (A159 6 (by decide) rfl x1.toNatClampNeg)
                have K168 : rcp M0 M154 o0 4 18480 (420 * x1.toNatClampNeg) i2_135.toInt := kKQ4_141.same (((sA_a A159 (by decide +kernel)) : sA [4] _ _ _) 4 rfl)
                have : (((20 * x1) + i2_141).toNatClampNeg : Int) = ((20 * x1) + i2_141).toInt := mz_nat9 (by omega)
                have : ((880 + i2_141).toNatClampNeg : Int) = (880 + i2_141).toInt := mz_nat9 (by omega)
                have : (x1.toNatClampNeg : Int) = x1.toInt := mz_nat9 (by omega)
                have K169 : rcp M0 M154 o0 7 880 (20 * x1.toNatClampNeg) (i2_141.toInt + 1) := kKQ7_141.st E158 (by omega) (by omega) e151 (by omega) (by omega) rfl
                have K170 : rcp M0 M154 o0 8 880 (20 * x1.toNatClampNeg) i2_141.toInt := kKQ8_141.same (((sA_a A159 (by decide +kernel)) : sA [8] _ _ _) 8 rfl)
                have K171 : rcp M0 M154 o0 10 880 (20 * x1.toNatClampNeg) i2_141.toInt := kKQ10_141.same (((sA_a A159 (by decide +kernel)) : sA [10] _ _ _) 10 rfl)
                have K172 : rcp M0 M154 o0 11 880 (20 * x1.toNatClampNeg) i2_141.toInt := kKQ11_141.same (((sA_a A159 (by decide +kernel)) : sA [11] _ _ _) 11 rfl)
                have K173 : rcp M0 M154 o0 12 880 (20 * x1.toNatClampNeg) i2_141.toInt := kKQ12_141.same (((sA_a A159 (by decide +kernel)) : sA [12] _ _ _) 12 rfl)
                have K174 : ∀ i : Nat, i ≠ x1.toNatClampNeg → ra M154 o0 6 i = ra M0 o0 6 i := (by have e9 := ((sA_a A159 (by decide +kernel)) : sA [6] _ _ _) 6 rfl; rw [e9]; exact kKMs_141)
                refine mv_aload_n d_TrustDeskModel_stops_145 rfl rfl ?_
                obtain ⟨a176, q175, t_a176⟩ := tm_atR I155 h_q0_141 (k := 8) rfl
                refine tr_getK q175 d_TrustDeskModel_stops_146 f_TrustDeskModel_29_13 ?_
                refine mv_iload d_TrustDeskModel_stops_149 rfl ?_
                refine mv_aload_n d_TrustDeskModel_stops_151 rfl rfl ?_
                refine tr_getK (k := 8) q175 d_TrustDeskModel_stops_152 f_TrustDeskModel_29_13 ?_
                refine mv_iload_n d_TrustDeskModel_stops_155 rfl rfl ?_
                have b177 : (880 + i2_141 : Int32).toInt = (880 + i2_141.toInt) := mz_add2 (by decide) rfl (by omega) (by omega)
                refine tr_ialdR (o := o0) (k := 8) I155 q175 t_a176 (by decide) d_TrustDeskModel_stops_156 (vp_in_iff.mpr (by omega)) (fun v178 e179 => ?_)
                have := R157.a (k := 8) rfl ((880 + i2_141) : Int32).toNatClampNeg
                have b180 : (20 * x1 : Int32).toInt = (20 * x1.toInt) := mz_mul2 (by decide) rfl (by omega) (by omega)
                have b181 : ((20 * x1) + i2_141 : Int32).toInt = ((20 * x1.toInt) + i2_141.toInt) := mz_add2 b180 rfl (by omega) (by omega)
                refine tr_iastR (k := 8) I155 R157 (I155.up h_o0) q175 t_a176 (by decide) (by decide) (fun lo hi h => by cases h; exact ⟨by show ((-1) : Int) ≤ v178.toInt; omega, by show v178.toInt ≤ (720 : Int); omega⟩) (Or.inl (by decide)) d_TrustDeskModel_stops_157 (vp_in_iff.mpr (by omega)) (fun M182 I183 K184 R185 E186 A187 V188 => ?_)
                have z189 := (V188 14).trans z161
                have z190 := (V188 19).trans z162
                have z191 := (V188 20).trans z163
                have z192 := (V188 21).trans z164
                have z193 := (A187 5 (by decide) rfl 44).trans z165
                have z194 := (A187 6 (by decide) rfl 44).trans z166
                have z195 := (A187 6 (by decide) rfl x1.toNatClampNeg).trans z167
                have K196 : rcp M0 M182 o0 4 18480 (420 * x1.toNatClampNeg) i2_135.toInt := K168.same (((sA_a A187 (by decide +kernel)) : sA [4] _ _ _) 4 rfl)
                have K197 : rcp M0 M182 o0 7 880 (20 * x1.toNatClampNeg) (i2_141.toInt + 1) := K169.same (((sA_a A187 (by decide +kernel)) : sA [7] _ _ _) 7 rfl)
                have K198 : rcp M0 M182 o0 8 880 (20 * x1.toNatClampNeg) (i2_141.toInt + 1) := K170.st E186 (by omega) (by omega) e179 (by omega) (by omega) rfl
                have K199 : rcp M0 M182 o0 10 880 (20 * x1.toNatClampNeg) i2_141.toInt := K171.same (((sA_a A187 (by decide +kernel)) : sA [10] _ _ _) 10 rfl)
                have K200 : rcp M0 M182 o0 11 880 (20 * x1.toNatClampNeg) i2_141.toInt := K172.same (((sA_a A187 (by decide +kernel)) : sA [11] _ _ _) 11 rfl)
                have K201 : rcp M0 M182 o0 12 880 (20 * x1.toNatClampNeg) i2_141.toInt := K173.same (((sA_a A187 (by decide +kernel)) : sA [12] _ _ _) 12 rfl)
                have K202 : ∀ i : Nat, i ≠ x1.toNatClampNeg → ra M182 o0 6 i = ra M0 o0 6 i := (by have e9 := ((sA_a A187 (by decide +kernel)) : sA [6] _ _ _) 6 rfl; rw [e9]; exact K174)
                clear z161 z163 z164 z165 z166 z167
                refine mv_aload_n d_TrustDeskModel_stops_158 rfl rfl ?_
                obtain ⟨a204, q203, t_a204⟩ := tm_atR I183 h_q0_141 (k := 9) rfl
                refine tr_getK q203 d_TrustDeskModel_stops_159 f_TrustDeskModel_32_13 ?_
                refine mv_iload d_TrustDeskModel_stops_162 rfl ?_
                refine mv_aload_n d_TrustDeskModel_stops_164 rfl rfl ?_
                refine tr_getK (k := 9) q203 d_TrustDeskModel_stops_165 f_TrustDeskModel_32_13 ?_
                refine mv_iload_n d_TrustDeskModel_stops_168 rfl rfl ?_
                have b205 : (880 + i2_141 : Int32).toInt = (880 + i2_141.toInt) := mz_add2 (by decide) rfl (by omega) (by omega)
                refine tr_ialdR (o := o0) (k := 9) I183 q203 t_a204 (by decide) d_TrustDeskModel_stops_169 (vp_in_iff.mpr (by omega)) (fun v206 e207 => ?_)
                have b208 : (20 * x1 : Int32).toInt = (20 * x1.toInt) := mz_mul2 (by decide) rfl (by omega) (by omega)
                have b209 : ((20 * x1) + i2_141 : Int32).toInt = ((20 * x1.toInt) + i2_141.toInt) := mz_add2 b208 rfl (by omega) (by omega)
                refine tr_iastR (k := 9) I183 R185 (I183.up h_o0) q203 t_a204 (by decide) (by decide) (fun lo hi h => by cases h) (Or.inl (by decide)) d_TrustDeskModel_stops_170 (vp_in_iff.mpr (by omega)) (fun M210 I211 K212 R213 E214 A215 V216 => ?_)
                have z217 := (V216 14).trans z189
                have z218 := (V216 19).trans z190
                have z219 := (V216 20).trans z191
                have z220 := (V216 21).trans z192
                have z221 := (A215 5 (by decide) rfl 44).trans z193
                have z222 := (A215 6 (by decide) rfl 44).trans z194
                have z223 := (A215 6 (by decide) rfl x1.toNatClampNeg).trans z195
                have K224 : rcp M0 M210 o0 4 18480 (420 * x1.toNatClampNeg) i2_135.toInt := K196.same (((sA_a A215 (by decide +kernel)) : sA [4] _ _ _) 4 rfl)
                have K225 : rcp M0 M210 o0 7 880 (20 * x1.toNatClampNeg) (i2_141.toInt + 1) := K197.same (((sA_a A215 (by decide +kernel)) : sA [7] _ _ _) 7 rfl)
                have K226 : rcp M0 M210 o0 8 880 (20 * x1.toNatClampNeg) (i2_141.toInt + 1) := K198.same (((sA_a A215 (by decide +kernel)) : sA [8] _ _ _) 8 rfl)
                have K227 : rcp M0 M210 o0 10 880 (20 * x1.toNatClampNeg) i2_141.toInt := K199.same (((sA_a A215 (by decide +kernel)) : sA [10] _ _ _) 10 rfl)
                have K228 : rcp M0 M210 o0 11 880 (20 * x1.toNatClampNeg) i2_141.toInt := K200.same (((sA_a A215 (by decide +kernel)) : sA [11] _ _ _) 11 rfl)
                have K229 : rcp M0 M210 o0 12 880 (20 * x1.toNatClampNeg) i2_141.toInt := K201.same (((sA_a A215 (by decide +kernel)) : sA [12] _ _ _) 12 rfl)
                have K230 : ∀ i : Nat, i ≠ x1.toNatClampNeg → ra M210 o0 6 i = ra M0 o0 6 i := (by have e9 := ((sA_a A215 (by decide +kernel)) : sA [6] _ _ _) 6 rfl; rw [e9]; exact K202)
                clear z189 z191 z192 z193 z194 z195
                refine mv_aload_n d_TrustDeskModel_stops_171 rfl rfl ?_
                obtain ⟨a232, q231, t_a232⟩ := tm_atR I211 h_q0_141 (k := 10) rfl
                refine tr_getK q231 d_TrustDeskModel_stops_172 f_TrustDeskModel_35_13 ?_
                refine mv_iload d_TrustDeskModel_stops_175 rfl ?_
                refine mv_aload_n d_TrustDeskModel_stops_177 rfl rfl ?_
                refine tr_getK (k := 10) q231 d_TrustDeskModel_stops_178 f_TrustDeskModel_35_13 ?_
                refine mv_iload_n d_TrustDeskModel_stops_181 rfl rfl ?_
                have b233 : (880 + i2_141 : Int32).toInt = (880 + i2_141.toInt) := mz_add2 (by decide) rfl (by omega) (by omega)
                refine tr_ialdR (o := o0) (k := 10) I211 q231 t_a232 (by decide) d_TrustDeskModel_stops_182 (vp_in_iff.mpr (by omega)) (fun v234 e235 => ?_)
                have := R213.a (k := 10) rfl ((880 + i2_141) : Int32).toNatClampNeg
                have b236 : (20 * x1 : Int32).toInt = (20 * x1.toInt) := mz_mul2 (by decide) rfl (by omega) (by omega)
                have b237 : ((20 * x1) + i2_141 : Int32).toInt = ((20 * x1.toInt) + i2_141.toInt) := mz_add2 b236 rfl (by omega) (by omega)
                refine tr_iastR (k := 10) I211 R213 (I211.up h_o0) q231 t_a232 (by decide) (by decide) (fun lo hi h => by cases h; exact ⟨by show (0 : Int) ≤ v234.toInt; omega, by show v234.toInt ≤ (400 : Int); omega⟩) (Or.inl (by decide)) d_TrustDeskModel_stops_183 (vp_in_iff.mpr (by omega)) (fun M238 I239 K240 R241 E242 A243 V244 => ?_)
                have z245 := (V244 14).trans z217
                have z246 := (V244 19).trans z218
                have z247 := (V244 20).trans z219
                have z248 := (V244 21).trans z220
                have z249 := (A243 5 (by decide) rfl 44).trans z221
                have z250 := (A243 6 (by decide) rfl 44).trans z222
                have z251 := (A243 6 (by decide) rfl x1.toNatClampNeg).trans z223
                have K252 : rcp M0 M238 o0 4 18480 (420 * x1.toNatClampNeg) i2_135.toInt := K224.same (((sA_a A243 (by decide +kernel)) : sA [4] _ _ _) 4 rfl)
                have K253 : rcp M0 M238 o0 7 880 (20 * x1.toNatClampNeg) (i2_141.toInt + 1) := K225.same (((sA_a A243 (by decide +kernel)) : sA [7] _ _ _) 7 rfl)
                have K254 : rcp M0 M238 o0 8 880 (20 * x1.toNatClampNeg) (i2_141.toInt + 1) := K226.same (((sA_a A243 (by decide +kernel)) : sA [8] _ _ _) 8 rfl)
                have K255 : rcp M0 M238 o0 10 880 (20 * x1.toNatClampNeg) (i2_141.toInt + 1) := K227.st E242 (by omega) (by omega) e235 (by omega) (by omega) rfl
                have K256 : rcp M0 M238 o0 11 880 (20 * x1.toNatClampNeg) i2_141.toInt := K228.same (((sA_a A243 (by decide +kernel)) : sA [11] _ _ _) 11 rfl)
                have K257 : rcp M0 M238 o0 12 880 (20 * x1.toNatClampNeg) i2_141.toInt := K229.same (((sA_a A243 (by decide +kernel)) : sA [12] _ _ _) 12 rfl)
                have K258 : ∀ i : Nat, i ≠ x1.toNatClampNeg → ra M238 o0 6 i = ra M0 o0 6 i := (by have e9 := ((sA_a A243 (by decide +kernel)) : sA [6] _ _ _) 6 rfl; rw [e9]; exact K230)
                clear z217 z219 z220 z221 z222 z223
                refine mv_aload_n d_TrustDeskModel_stops_184 rfl rfl ?_
                obtain ⟨a260, q259, t_a260⟩ := tm_atR I239 h_q0_141 (k := 11) rfl
                refine tr_getK q259 d_TrustDeskModel_stops_185 f_TrustDeskModel_38_13 ?_
                refine mv_iload d_TrustDeskModel_stops_188 rfl ?_
                refine mv_aload_n d_TrustDeskModel_stops_190 rfl rfl ?_
                refine tr_getK (k := 11) q259 d_TrustDeskModel_stops_191 f_TrustDeskModel_38_13 ?_
                refine mv_iload_n d_TrustDeskModel_stops_194 rfl rfl ?_
                have b261 : (880 + i2_141 : Int32).toInt = (880 + i2_141.toInt) := mz_add2 (by decide) rfl (by omega) (by omega)
                refine tr_ialdR (o := o0) (k := 11) I239 q259 t_a260 (by decide) d_TrustDeskModel_stops_195 (vp_in_iff.mpr (by omega)) (fun v262 e263 => ?_)
                have := R241.a (k := 11) rfl ((880 + i2_141) : Int32).toNatClampNeg
                have b264 : (20 * x1 : Int32).toInt = (20 * x1.toInt) := mz_mul2 (by decide) rfl (by omega) (by omega)
                have b265 : ((20 * x1) + i2_141 : Int32).toInt = ((20 * x1.toInt) + i2_141.toInt) := mz_add2 b264 rfl (by omega) (by omega)
                refine tr_iastR (k := 11) I239 R241 (I239.up h_o0) q259 t_a260 (by decide) (by decide) (fun lo hi h => by cases h; exact ⟨by show (0 : Int) ≤ v262.toInt; omega, by show v262.toInt ≤ (400 : Int); omega⟩) (Or.inl (by decide)) d_TrustDeskModel_stops_196 (vp_in_iff.mpr (by omega)) (fun M266 I267 K268 R269 E270 A271 V272 => ?_)
                have z273 := (V272 14).trans z245
                have z274 := (V272 19).trans z246
                have z275 := (V272 20).trans z247
                have z276 := (V272 21).trans z248
                have z277 := (A271 5 (by decide) rfl 44).trans z249
                have z278 := (A271 6 (by decide) rfl 44).trans z250
                have z279 := (A271 6 (by decide) rfl x1.toNatClampNeg).trans z251
                have K280 : rcp M0 M266 o0 4 18480 (420 * x1.toNatClampNeg) i2_135.toInt := K252.same (((sA_a A271 (by decide +kernel)) : sA [4] _ _ _) 4 rfl)
                have K281 : rcp M0 M266 o0 7 880 (20 * x1.toNatClampNeg) (i2_141.toInt + 1) := K253.same (((sA_a A271 (by decide +kernel)) : sA [7] _ _ _) 7 rfl)
                have K282 : rcp M0 M266 o0 8 880 (20 * x1.toNatClampNeg) (i2_141.toInt + 1) := K254.same (((sA_a A271 (by decide +kernel)) : sA [8] _ _ _) 8 rfl)
                have K283 : rcp M0 M266 o0 10 880 (20 * x1.toNatClampNeg) (i2_141.toInt + 1) := K255.same (((sA_a A271 (by decide +kernel)) : sA [10] _ _ _) 10 rfl)
                have K284 : rcp M0 M266 o0 11 880 (20 * x1.toNatClampNeg) (i2_141.toInt + 1) := K256.st E270 (by omega) (by omega) e263 (by omega) (by omega) rfl
                have K285 : rcp M0 M266 o0 12 880 (20 * x1.toNatClampNeg) i2_141.toInt := K257.same (((sA_a A271 (by decide +kernel)) : sA [12] _ _ _) 12 rfl)
                have K286 : ∀ i : Nat, i ≠ x1.toNatClampNeg → ra M266 o0 6 i = ra M0 o0 6 i := (by have e9 := ((sA_a A271 (by decide +kernel)) : sA [6] _ _ _) 6 rfl; rw [e9]; exact K258)
                clear z245 z247 z248 z249 z250 z251
                refine mv_aload_n d_TrustDeskModel_stops_197 rfl rfl ?_
                obtain ⟨a288, q287, t_a288⟩ := tm_atR I267 h_q0_141 (k := 12) rfl
                refine tr_getK q287 d_TrustDeskModel_stops_198 f_TrustDeskModel_41_13 ?_
                refine mv_iload d_TrustDeskModel_stops_201 rfl ?_
                refine mv_aload_n d_TrustDeskModel_stops_203 rfl rfl ?_
                refine tr_getK (k := 12) q287 d_TrustDeskModel_stops_204 f_TrustDeskModel_41_13 ?_
                refine mv_iload_n d_TrustDeskModel_stops_207 rfl rfl ?_
                have b289 : (880 + i2_141 : Int32).toInt = (880 + i2_141.toInt) := mz_add2 (by decide) rfl (by omega) (by omega)
                refine tr_ialdR (o := o0) (k := 12) I267 q287 t_a288 (by decide) d_TrustDeskModel_stops_208 (vp_in_iff.mpr (by omega)) (fun v290 e291 => ?_)
                have := R269.a (k := 12) rfl ((880 + i2_141) : Int32).toNatClampNeg
                have b292 : (20 * x1 : Int32).toInt = (20 * x1.toInt) := mz_mul2 (by decide) rfl (by omega) (by omega)
                have b293 : ((20 * x1) + i2_141 : Int32).toInt = ((20 * x1.toInt) + i2_141.toInt) := mz_add2 b292 rfl (by omega) (by omega)
                refine tr_iastR (k := 12) I267 R269 (I267.up h_o0) q287 t_a288 (by decide) (by decide) (fun lo hi h => by cases h; exact ⟨by show (0 : Int) ≤ v290.toInt; omega, by show v290.toInt ≤ (400 : Int); omega⟩) (Or.inl (by decide)) d_TrustDeskModel_stops_209 (vp_in_iff.mpr (by omega)) (fun M294 I295 K296 R297 E298 A299 V300 => ?_)
                have z301 := (V300 14).trans z273
                have z302 := (V300 19).trans z274
                have z303 := (V300 20).trans z275
                have z304 := (V300 21).trans z276
                have z305 := (A299 5 (by decide) rfl 44).trans z277
                have z306 := (A299 6 (by decide) rfl 44).trans z278
                have z307 := (A299 6 (by decide) rfl x1.toNatClampNeg).trans z279
                have K308 : rcp M0 M294 o0 4 18480 (420 * x1.toNatClampNeg) i2_135.toInt := K280.same (((sA_a A299 (by decide +kernel)) : sA [4] _ _ _) 4 rfl)
                have K309 : rcp M0 M294 o0 7 880 (20 * x1.toNatClampNeg) (i2_141.toInt + 1) := K281.same (((sA_a A299 (by decide +kernel)) : sA [7] _ _ _) 7 rfl)
                have K310 : rcp M0 M294 o0 8 880 (20 * x1.toNatClampNeg) (i2_141.toInt + 1) := K282.same (((sA_a A299 (by decide +kernel)) : sA [8] _ _ _) 8 rfl)
                have K311 : rcp M0 M294 o0 10 880 (20 * x1.toNatClampNeg) (i2_141.toInt + 1) := K283.same (((sA_a A299 (by decide +kernel)) : sA [10] _ _ _) 10 rfl)
                have K312 : rcp M0 M294 o0 11 880 (20 * x1.toNatClampNeg) (i2_141.toInt + 1) := K284.same (((sA_a A299 (by decide +kernel)) : sA [11] _ _ _) 11 rfl)
                have K313 : rcp M0 M294 o0 12 880 (20 * x1.toNatClampNeg) (i2_141.toInt + 1) := K285.st E298 (by omega) (by omega) e291 (by omega) (by omega) rfl
                have K314 : ∀ i : Nat, i ≠ x1.toNatClampNeg → ra M294 o0 6 i = ra M0 o0 6 i := (by have e9 := ((sA_a A299 (by decide +kernel)) : sA [6] _ _ _) 6 rfl; rw [e9]; exact K286)
                clear z273 z275 z276 z277 z278 z279
                refine mv_iinc (v := (i2_141 + 1)) (lv' := [(2, .int (i2_141 + 1)), (4, .int ((20 * x1) + i2_141)), (3, .int (880 + i2_141)), (0, .ref o0), (1, .int x1)]) d_TrustDeskModel_stops_210 rfl rfl (by decide) rfl ?_
                refine mv_goto (tgt := 107) d_TrustDeskModel_stops_213 (by decide) ?_
                have b315 : (i2_141 + 1 : Int32).toInt = (i2_141.toInt + 1) := mz_add2 rfl (by decide) (by omega) (by omega)
                have K316 : rcp M0 M294 o0 7 880 (20 * x1.toNatClampNeg) ((i2_141 + 1).toInt) := K309.cast (by omega)
                have K317 : rcp M0 M294 o0 8 880 (20 * x1.toNatClampNeg) ((i2_141 + 1).toInt) := K310.cast (by omega)
                have K318 : rcp M0 M294 o0 10 880 (20 * x1.toNatClampNeg) ((i2_141 + 1).toInt) := K311.cast (by omega)
                have K319 : rcp M0 M294 o0 11 880 (20 * x1.toNatClampNeg) ((i2_141 + 1).toInt) := K312.cast (by omega)
                have K320 : rcp M0 M294 o0 12 880 (20 * x1.toNatClampNeg) ((i2_141 + 1).toInt) := K313.cast (by omega)
                refine mv_locals (lv' := [(2, .int (i2_141 + 1)), (0, .ref o0), (1, .int x1)]) (by intro q hq; simp only [List.mem_cons, List.not_mem_nil, or_false] at hq; rcases hq with rfl | rfl | rfl <;> rfl) ?_
                have b321 : (i2_141 + 1).toInt = i2_141.toInt + 1 := mz_addn 1 1 (by decide) (by have := mz_lo i2_141; omega) (by have := mz_hi i2_141; omega)
                exact (ih141 (i2_141 + 1) T_141 M294 n_141 I295 h_q0_141 (by first | omega | decide | exact fun h9 => absurd (by decide) h9) (by first | omega | decide | exact fun h9 => absurd (by decide) h9) (by first | omega | decide | exact fun h9 => absurd (by decide) h9) (by first | omega | decide | exact fun h9 => absurd (by decide) h9) (by first | omega | decide | exact fun h9 => absurd (by decide) h9) (by first | omega | decide | exact fun h9 => absurd (by decide) h9) (by first | omega | decide | exact fun h9 => absurd (by decide) h9) (by first | omega | decide | exact fun h9 => absurd (by decide) h9) R297 K308 K316 K317 K318 K319 K320 K314 (by omega))
          have : (0 : Int32).toInt = 0 := by decide
          exact mv_less (Nat.zero_le _) (Nat.zero_le _) (L107_141 4294967296 0 T_135 M_135 n_135 I_135 h_q0_135 (by first | omega | decide | exact fun h9 => absurd (by decide) h9) (by first | omega | decide | exact fun h9 => absurd (by decide) h9) (by first | omega | decide | exact fun h9 => absurd (by decide) h9) (by first | omega | decide | exact fun h9 => absurd (by decide) h9) (by first | omega | decide | exact fun h9 => absurd (by decide) h9) (by first | omega | decide | exact fun h9 => absurd (by decide) h9) (by first | omega | decide | exact fun h9 => absurd (by decide) h9) (by first | omega | decide | exact fun h9 => absurd (by decide) h9) kKR_135 kKQ4_135 kKQ7_135 kKQ8_135 kKQ10_135 kKQ11_135 kKQ12_135 kKMs_135 (by show (2147483647 - (0 : Int) : Int) < _; decide))
        · refine mv_aload_n d_TrustDeskModel_stops_77 rfl rfl ?_
          obtain ⟨a323, q322, t_a323⟩ := tm_atR I_135 h_q0_135 (k := 4) rfl
          refine tr_getK q322 d_TrustDeskModel_stops_78 f_TrustDeskModel_17_13 ?_
          refine mv_sipush (v := 420) d_TrustDeskModel_stops_81 (by decide) ?_
          refine mv_iload_n d_TrustDeskModel_stops_84 rfl rfl ?_
          refine mv_imul d_TrustDeskModel_stops_85 ?_
          refine mv_iload_n d_TrustDeskModel_stops_86 rfl rfl ?_
          refine mv_iadd d_TrustDeskModel_stops_87 ?_
          refine mv_aload_n d_TrustDeskModel_stops_88 rfl rfl ?_
          refine tr_getK (k := 4) q322 d_TrustDeskModel_stops_89 f_TrustDeskModel_17_13 ?_
          refine mv_sipush (v := 18480) d_TrustDeskModel_stops_92 (by decide) ?_
          refine mv_iload_n d_TrustDeskModel_stops_95 rfl rfl ?_
          refine mv_iadd d_TrustDeskModel_stops_96 ?_
          have b324 : (18480 + i2_135 : Int32).toInt = (18480 + i2_135.toInt) := mz_add2 (by decide) rfl (by omega) (by omega)
          refine tr_ialdR (o := o0) (k := 4) I_135 q322 t_a323 (by decide) d_TrustDeskModel_stops_97 (vp_in_iff.mpr (by omega)) (fun v325 e326 => ?_)
          have := kKR_135.a (k := 4) rfl ((18480 + i2_135) : Int32).toNatClampNeg
          have b327 : (420 * x1 : Int32).toInt = (420 * x1.toInt) := mz_mul2 (by decide) rfl (by omega) (by omega)
          have b328 : ((420 * x1) + i2_135 : Int32).toInt = ((420 * x1.toInt) + i2_135.toInt) := mz_add2 b327 rfl (by omega) (by omega)
          refine tr_iastR (k := 4) I_135 kKR_135 (I_135.up h_o0) q322 t_a323 (by decide) (by decide) (fun lo hi h => by cases h; exact ⟨by show ((-9) : Int) ≤ v325.toInt; omega, by show v325.toInt ≤ (10012 : Int); omega⟩) (Or.inl (by decide)) d_TrustDeskModel_stops_98 (vp_in_iff.mpr (by omega)) (fun M329 I330 K331 R332 E333 A334 V335 => ?_)
          have z336 := (V335 14)
          have z337 := (V335 19)
          have z338 := (V335 20)
          have z339 := (V335 21)
          have z340 := (A334 5 (by decide) rfl 44)
          have z341 := (A334 6 (by decide) rfl 44)
          have z342 := (A334 6 (by decide) rfl x1.toNatClampNeg)
          have : (((420 * x1) + i2_135).toNatClampNeg : Int) = ((420 * x1) + i2_135).toInt := mz_nat9 (by omega)
          have : ((18480 + i2_135).toNatClampNeg : Int) = (18480 + i2_135).toInt := mz_nat9 (by omega)
          have : (x1.toNatClampNeg : Int) = x1.toInt := mz_nat9 (by omega)
          have K343 : rcp M0 M329 o0 4 18480 (420 * x1.toNatClampNeg) (i2_135.toInt + 1) := kKQ4_135.st E333 (by omega) (by omega) e326 (by omega) (by omega) rfl
          have K344 : rcp M0 M329 o0 7 880 (20 * x1.toNatClampNeg) 0 := kKQ7_135.same (((sA_a A334 (by decide +kernel)) : sA [7] _ _ _) 7 rfl)
          have K345 : rcp M0 M329 o0 8 880 (20 * x1.toNatClampNeg) 0 := kKQ8_135.same (((sA_a A334 (by decide +kernel)) : sA [8] _ _ _) 8 rfl)
          have K346 : rcp M0 M329 o0 10 880 (20 * x1.toNatClampNeg) 0 := kKQ10_135.same (((sA_a A334 (by decide +kernel)) : sA [10] _ _ _) 10 rfl)
          have K347 : rcp M0 M329 o0 11 880 (20 * x1.toNatClampNeg) 0 := kKQ11_135.same (((sA_a A334 (by decide +kernel)) : sA [11] _ _ _) 11 rfl)
          have K348 : rcp M0 M329 o0 12 880 (20 * x1.toNatClampNeg) 0 := kKQ12_135.same (((sA_a A334 (by decide +kernel)) : sA [12] _ _ _) 12 rfl)
          have K349 : ∀ i : Nat, i ≠ x1.toNatClampNeg → ra M329 o0 6 i = ra M0 o0 6 i := (by have e9 := ((sA_a A334 (by decide +kernel)) : sA [6] _ _ _) 6 rfl; rw [e9]; exact kKMs_135)
          refine mv_iinc (v := (i2_135 + 1)) (lv' := [(2, .int (i2_135 + 1)), (0, .ref o0), (1, .int x1)]) d_TrustDeskModel_stops_99 rfl rfl (by decide) rfl ?_
          refine mv_goto (tgt := 66) d_TrustDeskModel_stops_102 (by decide) ?_
          have b350 : (i2_135 + 1 : Int32).toInt = (i2_135.toInt + 1) := mz_add2 rfl (by decide) (by omega) (by omega)
          have K351 : rcp M0 M329 o0 4 18480 (420 * x1.toNatClampNeg) ((i2_135 + 1).toInt) := K343.cast (by omega)
          have b352 : (i2_135 + 1).toInt = i2_135.toInt + 1 := mz_addn 1 1 (by decide) (by have := mz_lo i2_135; omega) (by have := mz_hi i2_135; omega)
          exact (ih135 (i2_135 + 1) T_135 M329 n_135 I330 h_q0_135 (by first | omega | decide | exact fun h9 => absurd (by decide) h9) (by first | omega | decide | exact fun h9 => absurd (by decide) h9) (by first | omega | decide | exact fun h9 => absurd (by decide) h9) (by first | omega | decide | exact fun h9 => absurd (by decide) h9) (by first | omega | decide | exact fun h9 => absurd (by decide) h9) (by first | omega | decide | exact fun h9 => absurd (by decide) h9) (by first | omega | decide | exact fun h9 => absurd (by decide) h9) (by first | omega | decide | exact fun h9 => absurd (by decide) h9) R332 K351 K344 K345 K346 K347 K348 K349 (by omega))
    have : (0 : Int32).toInt = 0 := by decide
    exact mv_less (Nat.zero_le _) (Nat.zero_le _) (L66_135 4294967296 0 T0 M112 n0 I113 h_o0 (by first | omega | decide | exact fun h9 => absurd (by decide) h9) (by first | omega | decide | exact fun h9 => absurd (by decide) h9) (by first | omega | decide | exact fun h9 => absurd (by decide) h9) (by first | omega | decide | exact fun h9 => absurd (by decide) h9) (by first | omega | decide | exact fun h9 => absurd (by decide) h9) (by first | omega | decide | exact fun h9 => absurd (by decide) h9) (by first | omega | decide | exact fun h9 => absurd (by decide) h9) (by first | omega | decide | exact fun h9 => absurd (by decide) h9) R115 K127 K128 K129 K130 K131 K132 K134 (by show (2147483647 - (0 : Int) : Int) < _; decide))
def w_TrustDeskModel_begin_a : List Nat := [1315, 1316, 1317, 1318, 20006, 20007, 20010]
set_option maxHeartbeats 100000000 in theorem tc_TrustDeskModel_begin_a {g : mj_G} {l : Launch} {d : Nat} {T0 : tm_H} {M0 : mj_M} {n0 x9 : Nat} {o0 : Nat} {x1 : Int32} (h_o0 : T0 o0 = some (0, 13, 0)) (yR : rI M0 o0) (yT : rT M0 o0) (yS : rv M0 o0 19 = 0 → ra M0 o0 5 44 ≤ rv M0 o0 16) (yw : rv M0 o0 19 = 0) (yo : rv M0 o0 17 ≠ 0) (ym : ra M0 o0 6 44 ≤ 19) {pb : Nat → Int} {pn : Nat} {pa : Int} {ps : p_S} (yO : pO M0 o0 pb pn pa ps) (I0 : tm_I tm_FT (tm_in w_TrustDeskModel_begin_a) x9 T0 M0 n0 T0 M0 n0) : mj_Met g l kY_TrustDeskModel_begin (d + 2) [.ref o0, .int x1] M0 n0 0 0 (tm_Q tm_FT (tm_in w_TrustDeskModel_begin_a) x9 T0 M0 n0 (fun r _ M => ∃ v : Int32, r = some (.int v) ∧ rI M o0 ∧ (rE M0 M o0 0 1) ∧ (v.toInt = 880 + ra M0 o0 6 44) ∧ (ra M o0 6 44 = ra M0 o0 6 44 + 1) ∧ (ra M o0 7 (880 + ra M0 o0 6 44).toNat = x1.toInt) ∧ (ra M o0 10 (880 + ra M0 o0 6 44).toNat = ra M0 o0 5 44) ∧ (rK M0 M o0 (880 + ra M0 o0 6 44).toNat) ∧ (pO M o0 pb pn pa (p_nx ps)) ∧ (∀ i : Nat, i ≠ 44 → ra M o0 6 i = ra M0 o0 6 i))) := by
  refine mj_enter (by decide) (Nat.le_of_ble_eq_true rfl) ?_
  have yE0 := rE.rf yT
  have K1 : rK M0 M0 o0 ((880 + ra M0 o0 6 44).toNat) := rK.rf
  have K2 : ∀ i : Nat, i ≠ 44 → ra M0 o0 6 i = ra M0 o0 6 i := (fun _ _ => rfl)
  have := yO.w
  refine mv_sipush (v := 880) d_TrustDeskModel_begin_0 (by decide) ?_
  refine mv_aload_n d_TrustDeskModel_begin_3 rfl rfl ?_
  obtain ⟨a4, q3, t_a4⟩ := tm_atR I0 h_o0 (k := 6) rfl
  refine tr_getK q3 d_TrustDeskModel_begin_4 f_TrustDeskModel_23_13 ?_
  refine mv_bipush (v := 44) d_TrustDeskModel_begin_7 (by decide) ?_
  refine tr_ialdR (o := o0) (k := 6) I0 q3 t_a4 (by decide) d_TrustDeskModel_begin_9 (by unfold vp_in; decide) (fun v5 e6 => ?_)
  have := yR.a (k := 6) rfl (44 : Int32).toNatClampNeg
  have : v5.toInt = ra M0 o0 6 44 := e6
  refine mv_iadd d_TrustDeskModel_begin_10 ?_
  refine mv_istore_n (lv' := [(2, .int (880 + v5)), (0, .ref o0), (1, .int x1)]) d_TrustDeskModel_begin_11 rfl (by decide) rfl ?_
  refine mv_aload_n d_TrustDeskModel_begin_12 rfl rfl ?_
  refine tr_getK (k := 6) q3 d_TrustDeskModel_begin_13 f_TrustDeskModel_23_13 ?_
  refine mv_bipush (v := 44) d_TrustDeskModel_begin_16 (by decide) ?_
  refine mv_dup2_11 d_TrustDeskModel_begin_18 rfl rfl ?_
  refine tr_ialdR (o := o0) (k := 6) I0 q3 t_a4 (by decide) d_TrustDeskModel_begin_19 (by unfold vp_in; decide) (fun v7 e8 => ?_)
  have := yR.a (k := 6) rfl (44 : Int32).toNatClampNeg
  have : v7.toInt = ra M0 o0 6 44 := e8
  refine mv_iconst (v := 1) d_TrustDeskModel_begin_20 (by decide) ?_
  refine mv_iadd d_TrustDeskModel_begin_21 ?_
  have b9 : (v7 + 1 : Int32).toInt = (v7.toInt + 1) := mz_add2 rfl (by decide) (by have := yR.1 15 _ _ rfl; have := yR.1 16 _ _ rfl; have := yR.1 19 _ _ rfl; omega) (by have := yR.1 15 _ _ rfl; have := yR.1 16 _ _ rfl; have := yR.1 19 _ _ rfl; omega)
  refine tr_iastR (k := 6) I0 yR (I0.up h_o0) q3 t_a4 (by decide) (by decide) (fun lo hi h => by cases h; have := yR.1 15 _ _ rfl; have := yR.1 16 _ _ rfl; have := yR.1 19 _ _ rfl; exact ⟨by show (0 : Int) ≤ (v7 + 1).toInt; omega, by show (v7 + 1).toInt ≤ (20 : Int); omega⟩) (Or.inl (by decide)) d_TrustDeskModel_begin_22 (by unfold vp_in; decide) (fun M10 I11 K12 R13 E14 A15 V16 => ?_)
  have z17 := (V16 15)
  have z18 := (V16 16)
  have z19 := (V16 17)
  have z20 := (V16 19)
  have z21 := (V16 22)
  have z22 := (V16 24)
  have z23 := (A15 5 (by decide) rfl 44)
  have z24 : ra M10 o0 6 44 = (v7 + 1).toInt := (E14 44).trans (if_pos (by decide))
  have E25 : rE M0 M10 o0 0 0 := yE0.same (fun k _ _ => V16 k) (fun k h1 h2 => A15 k (by omega) (by rcases (show k = 4 ∨ k = 5 by omega) with rfl | rfl <;> rfl))
  have K26 : rK M0 M10 o0 ((880 + ra M0 o0 6 44).toNat) := K1.same (sA_a A15 (by decide +kernel))
  have K27 : ∀ i : Nat, i ≠ 44 → ra M10 o0 6 i = ra M0 o0 6 i := (fun i h9 => (E14 i).trans ((if_neg (by rw [show (44 : Int32).toNatClampNeg = 44 from by decide]; exact h9)).trans (K2 i h9)))
  have Z928 : pO M10 o0 pb pn pa ps := yO.same (fun k _ _ => V16 k) (V16 23) (A15 13 (by decide) rfl)
  refine mv_aload_n d_TrustDeskModel_begin_23 rfl rfl ?_
  obtain ⟨a30, q29, t_a30⟩ := tm_atR I11 h_o0 (k := 7) rfl
  refine tr_getK q29 d_TrustDeskModel_begin_24 f_TrustDeskModel_26_13 ?_
  refine mv_iload_n d_TrustDeskModel_begin_27 rfl rfl ?_
  refine mv_iload_n d_TrustDeskModel_begin_28 rfl rfl ?_
  have b31 : (880 + v5 : Int32).toInt = (880 + v5.toInt) := mz_add2 (by decide) rfl (by have := R13.1 15 _ _ rfl; have := R13.1 16 _ _ rfl; have := R13.1 19 _ _ rfl; omega) (by have := R13.1 15 _ _ rfl; have := R13.1 16 _ _ rfl; have := R13.1 19 _ _ rfl; omega)
  refine tr_iastR (k := 7) I11 R13 (I11.up h_o0) q29 t_a30 (by decide) (by decide) (fun lo hi h => by cases h) (Or.inl (by decide)) d_TrustDeskModel_begin_29 (vp_in_iff.mpr (by have := R13.1 15 _ _ rfl; have := R13.1 16 _ _ rfl; have := R13.1 19 _ _ rfl; omega)) (fun M32 I33 K34 R35 E36 A37 V38 => ?_)
  have z39 := (V38 15).trans z17
  have z40 := (V38 16).trans z18
  have z41 := (V38 17).trans z19
  have z42 := (V38 19).trans z20
  have z43 := (V38 22).trans z21
  have z44 := (V38 24).trans z22
  have z45 := (A37 5 (by decide) rfl 44).trans z23
  have z46 := (A37 6 (by decide) rfl 44).trans z24
  have E47 : rE M0 M32 o0 0 0 := E25.same (fun k _ _ => V38 k) (fun k h1 h2 => A37 k (by omega) (by rcases (show k = 4 ∨ k = 5 by omega) with rfl | rfl <;> rfl))
  have h48 : (880 + ra M0 o0 6 44).toNat = (880 + v5).toNatClampNeg := by have := mz_nat9 (i := (880 + v5)) (by have := R13.1 15 _ _ rfl; have := R13.1 16 _ _ rfl; have := R13.1 19 _ _ rfl; omega); have := R13.1 15 _ _ rfl; have := R13.1 16 _ _ rfl; have := R13.1 19 _ _ rfl; omega
  have z49 : ra M32 o0 7 ((880 + ra M0 o0 6 44).toNat) = x1.toInt := (E36 _).trans (if_pos h48)
  have K50 : rK M0 M32 o0 ((880 + ra M0 o0 6 44).toNat) := K26.st A37 E36 (by have := mz_nat9 (i := (880 + v5)) (by have := R13.1 15 _ _ rfl; have := R13.1 16 _ _ rfl; have := R13.1 19 _ _ rfl; omega); have := R13.1 15 _ _ rfl; have := R13.1 16 _ _ rfl; have := R13.1 19 _ _ rfl; omega)
  have K51 : ∀ i : Nat, i ≠ 44 → ra M32 o0 6 i = ra M0 o0 6 i := (by have e9 := ((sA_a A37 (by decide +kernel)) : sA [6] _ _ _) 6 rfl; rw [e9]; exact K27)
  have Z952 : pO M32 o0 pb pn pa ps := Z928.same (fun k _ _ => V38 k) (V38 23) (A37 13 (by decide) rfl)
  clear z17 z18 z19 z21 z22 z23 z24
  refine mv_aload_n d_TrustDeskModel_begin_30 rfl rfl ?_
  obtain ⟨a54, q53, t_a54⟩ := tm_atR I33 h_o0 (k := 10) rfl
  refine tr_getK q53 d_TrustDeskModel_begin_31 f_TrustDeskModel_35_13 ?_
  refine mv_iload_n d_TrustDeskModel_begin_34 rfl rfl ?_
  refine mv_aload_n d_TrustDeskModel_begin_35 rfl rfl ?_
  obtain ⟨a56, q55, t_a56⟩ := tm_atR I33 h_o0 (k := 5) rfl
  refine tr_getK q55 d_TrustDeskModel_begin_36 f_TrustDeskModel_20_13 ?_
  refine mv_bipush (v := 44) d_TrustDeskModel_begin_39 (by decide) ?_
  refine tr_ialdR (o := o0) (k := 5) I33 q55 t_a56 (by decide) d_TrustDeskModel_begin_41 (by unfold vp_in; decide) (fun v57 e58 => ?_)
  have := R35.a (k := 5) rfl (44 : Int32).toNatClampNeg
  have : v57.toInt = ra M32 o0 5 44 := e58
  have : v57.toInt = _ := Eq.trans e58 z45
  have b59 : (880 + v5 : Int32).toInt = (880 + v5.toInt) := mz_add2 (by decide) rfl (by have := R35.1 15 _ _ rfl; have := R35.1 16 _ _ rfl; have := R35.1 19 _ _ rfl; omega) (by have := R35.1 15 _ _ rfl; have := R35.1 16 _ _ rfl; have := R35.1 19 _ _ rfl; omega)
  refine tr_iastR (k := 10) I33 R35 (I33.up h_o0) q53 t_a54 (by decide) (by decide) (fun lo hi h => by cases h; have := R35.1 15 _ _ rfl; have := R35.1 16 _ _ rfl; have := R35.1 19 _ _ rfl; exact ⟨by show (0 : Int) ≤ v57.toInt; omega, by show v57.toInt ≤ (400 : Int); omega⟩) (Or.inl (by decide)) d_TrustDeskModel_begin_42 (vp_in_iff.mpr (by have := R35.1 15 _ _ rfl; have := R35.1 16 _ _ rfl; have := R35.1 19 _ _ rfl; omega)) (fun M60 I61 K62 R63 E64 A65 V66 => ?_)
  have z67 := (V66 15).trans z39
  have z68 := (V66 16).trans z40
  have z69 := (V66 17).trans z41
  have z70 := (V66 19).trans z42
  have z71 := (V66 22).trans z43
  have z72 := (V66 24).trans z44
  have z73 := (A65 5 (by decide) rfl 44).trans z45
  have z74 := (A65 6 (by decide) rfl 44).trans z46
  have z75 := (A65 7 (by decide) rfl ((880 + ra M0 o0 6 44).toNat)).trans z49
  have E76 : rE M0 M60 o0 0 0 := E47.same (fun k _ _ => V66 k) (fun k h1 h2 => A65 k (by omega) (by rcases (show k = 4 ∨ k = 5 by omega) with rfl | rfl <;> rfl))
  have h77 : (880 + ra M0 o0 6 44).toNat = (880 + v5).toNatClampNeg := by have := mz_nat9 (i := (880 + v5)) (by have := R35.1 15 _ _ rfl; have := R35.1 16 _ _ rfl; have := R35.1 19 _ _ rfl; omega); have := R35.1 15 _ _ rfl; have := R35.1 16 _ _ rfl; have := R35.1 19 _ _ rfl; omega
  have z78 : ra M60 o0 10 ((880 + ra M0 o0 6 44).toNat) = v57.toInt := (E64 _).trans (if_pos h77)
  have K79 : rK M0 M60 o0 ((880 + ra M0 o0 6 44).toNat) := K50.st A65 E64 (by have := mz_nat9 (i := (880 + v5)) (by have := R35.1 15 _ _ rfl; have := R35.1 16 _ _ rfl; have := R35.1 19 _ _ rfl; omega); have := R35.1 15 _ _ rfl; have := R35.1 16 _ _ rfl; have := R35.1 19 _ _ rfl; omega)
  have K80 : ∀ i : Nat, i ≠ 44 → ra M60 o0 6 i = ra M0 o0 6 i := (by have e9 := ((sA_a A65 (by decide +kernel)) : sA [6] _ _ _) 6 rfl; rw [e9]; exact K51)
  have Z981 : pO M60 o0 pb pn pa ps := Z952.same (fun k _ _ => V66 k) (V66 23) (A65 13 (by decide) rfl)
  clear z39 z40 z41 z43 z44 z45 z46 z49
  refine mv_aload_n d_TrustDeskModel_begin_43 rfl rfl ?_
  obtain ⟨_, b88, -⟩ := I61.1 _ _ h_o0
  refine mv_callV (kc' := 0) (ks' := 0) (As := []) (st9 := [.ref o0]) d_TrustDeskModel_begin_44 lV_TrustDeskModel_237 b88 rfl (tc_TrustDeskModel_next_x (d := d) (x9 := x9) (o0 := o0) h_o0 R63 Z981.p I61.start) rfl (Nat.le_of_ble_eq_true rfl) (Nat.le_of_ble_eq_true rfl) (Nat.le_of_ble_eq_true rfl) (hst := rfl) (fun b82r M83 n84 b82 => ?_)
  obtain ⟨T85, J86, rfl, R89, f90, f91, f92⟩ := b82
  have I87 := I61.call J86 (tm_sub (by decide)) (Or.inl rfl)
  have t93 := J86.up h_o0
  have z94 := (rv_c I61 J86 (I61.up h_o0) (k := 19) rfl).trans z70
  have z95 := (rv_c I61 J86 (I61.up h_o0) (k := 22) rfl).trans z71
  have z96 := (rv_c I61 J86 (I61.up h_o0) (k := 24) rfl).trans z72
  have z97 := (ra_call I61 J86 (I61.up h_o0) (k := 5) rfl rfl rfl 44).trans z73
  have z98 := (ra_call I61 J86 (I61.up h_o0) (k := 6) rfl rfl rfl 44).trans z74
  have z99 := (ra_call I61 J86 (I61.up h_o0) (k := 7) rfl rfl rfl ((880 + ra M0 o0 6 44).toNat)).trans z75
  have z100 := (ra_call I61 J86 (I61.up h_o0) (k := 10) rfl rfl rfl ((880 + ra M0 o0 6 44).toNat)).trans z78
  have h102 : rv M60 o0 16 + 1 ≤ rv M60 o0 15 := (by have := E76.1.2.1 (by omega); omega)
  have E101 : rE M0 M83 o0 0 1 := E76.next f90 f91 (rv_c I61 J86 (I61.up h_o0) (k := 19) rfl) (rE_ha I61 J86 (I61.up h_o0) (by decide)) (e := 1) h102 (by decide)
  have K103 : rK M0 M83 o0 ((880 + ra M0 o0 6 44).toNat) := K79.same (sA_c I61 J86 (I61.up h_o0) (by decide +kernel))
  have K104 : ∀ i : Nat, i ≠ 44 → ra M83 o0 6 i = ra M0 o0 6 i := (by have e9 := ((sA_c I61 J86 (I61.up h_o0) (by decide +kernel)) : sA [6] _ _ _) 6 rfl; rw [e9]; exact K80)
  obtain ⟨s105, e106⟩ : ∃ s9 : p_S, p_nx ps = s9 := ⟨_, rfl⟩
  rw [e106] at f92
  have := f92.w
  clear z71 z72 z73 z74 z75 z78
  have q107 := J86.keep h_o0 (by decide) (K62 _ 13 6 _ (K34 _ 13 6 _ (K12 _ 13 6 _ q3)))
  have t108 := J86.up t_a4
  have q109 := J86.keep h_o0 (by decide) (K62 _ 13 7 _ (K34 _ 13 7 _ q29))
  have t110 := J86.up t_a30
  have q111 := J86.keep h_o0 (by decide) (K62 _ 13 10 _ q53)
  have t112 := J86.up t_a54
  have q113 := J86.keep h_o0 (by decide) (K62 _ 13 5 _ q55)
  have t114 := J86.up t_a56
  refine mv_iload_n d_TrustDeskModel_begin_47 rfl rfl ?_
  exact mv_iret d_TrustDeskModel_begin_48 rfl (by first | rfl | decide) ⟨_, I87, _, rfl, R89, E101, (by have := R89.1 15 _ _ rfl; have := R89.1 16 _ _ rfl; have := R89.1 19 _ _ rfl; omega), (by have := R89.1 15 _ _ rfl; have := R89.1 16 _ _ rfl; have := R89.1 19 _ _ rfl; omega), (by have := R89.1 15 _ _ rfl; have := R89.1 16 _ _ rfl; have := R89.1 19 _ _ rfl; omega), (by have := R89.1 15 _ _ rfl; have := R89.1 16 _ _ rfl; have := R89.1 19 _ _ rfl; omega), K103, (by first | (rw [show p_nx ps = s105 from (by (try simp only [e106]))]; exact f92) | (exfalso; have := R89.1 15 _ _ rfl; have := R89.1 16 _ _ rfl; have := R89.1 19 _ _ rfl; omega)), K104⟩
