/-! THE DESK'S ACTS: where they lie, from which DAY, their six numbers -/
section DA
variable {FT : Nat → List tm_F} {W : Nat → Bool} {x n0 n n1 o La NR A R N : Nat} {T T0 T1 : tm_H} {M M0 M1 : mj_M} {fr V : Nat → Int} {va : Nat → Nat → Int} {f : Int}
theorem tm_keepU (J : tm_I FT W x T M n T1 M1 n1) (h : T R = some (1, 1224, N)) (hW : W 153 = false) : M1 R = M R := J.2.2.2.2.2.2.1 R _ h (by show W (1224 / 8) = false; exact hW)
theorem ra_u (h : tm_at M o 1 3 (.ref R)) (h1 : tm_at M1 o 1 3 (.ref R)) (e : M1 R = M R) (i : Nat) : ra M1 o 3 i = ra M o 3 i := by
  unfold ra
  rw [tm_rr h1, tm_rr h, e]
/-- an act: its DAY, its numbers -/
def qO (M : mj_M) (a : Nat) (f : Int) (V : Nat → Int) : Prop := ∃ (v : Int32) (R : Nat), tm_at M a 1 0 (.int v) ∧ v.toInt = f ∧ tm_at M a 1 3 (.ref R) ∧ ∀ w : Nat, w < 6 → ra M a 3 w = V w
/-- the one without rules, and those told -/
def qT (M : mj_M) (La NR A : Nat) (fr : Nat → Int) (va : Nat → Nat → Int) : Prop := qO M NR 0 p_dv ∧ ∀ i : Nat, i < A → ∃ a, tm_ge M La i a ∧ qO M a (fr i) (va i)
theorem tm_rl9 {a : Nat} (h0 : tm_W tm_FT T M) (ta : T a = some (0, 1, 0)) (h : tm_at M a 1 3 (.ref R)) : T R = some (1, 1224, 6) := by
  obtain ⟨fs, hm, hl, hfs⟩ := h0 a _ ta
  obtain ⟨v, e1, e2⟩ := hfs 3 (2, 1, 1224, 6) rfl
  obtain ⟨fs1, e3, e4⟩ := h
  cases hm.symm.trans e3
  cases e4.symm.trans e1
  obtain ⟨b9, e5, e6⟩ := e2
  cases e5
  exact e6
theorem qO.keepU {a : Nat} (h : qO M a f V) (h0 : tm_W tm_FT T M) (J : tm_I tm_FT W x T M n T1 M1 n1) (ta : T a = some (0, 1, 0)) (w1 : W 100 = false) (w2 : W 103 = false) (U : ∀ R : Nat, T R = some (1, 1224, 6) → M1 R = M R) : qO M1 a f V := by
  obtain ⟨v, R, h1, h2, h3, h4⟩ := h
  have h5 := J.keep ta w2 h3
  exact ⟨v, R, J.keep ta w1 h1, h2, h5, fun w hw => (ra_u h3 h5 (U R (tm_rl9 h0 ta h3)) w).trans (h4 w hw)⟩
theorem qT.keepU (h : qT M La NR A fr va) (h0 : tm_W tm_FT T M) (J : tm_I tm_FT W x T M n T1 M1 n1) (tN : T NR = some (0, 1, 0)) (tL : T La = some (3, 1, o)) (w1 : W 100 = false) (w2 : W 103 = false) (U : ∀ R : Nat, T R = some (1, 1224, 6) → M1 R = M R) (G : ∀ i b : Nat, tm_ge M La i b → tm_ge M1 La i b) : qT M1 La NR A fr va := by
  obtain ⟨h1, h2⟩ := h
  refine ⟨h1.keepU h0 J tN w1 w2 U, fun i hi => ?_⟩
  obtain ⟨a, h3, h4⟩ := h2 i hi
  obtain ⟨m, k, e, N, g, hls⟩ := h0 La _ tL
  exact ⟨a, G _ _ h3, h4.keepU h0 J (tm_ge.el hls h3).2.2 w1 w2 U⟩
theorem qT.keep (h : qT M La NR A fr va) (h0 : tm_W tm_FT T M) (J : tm_I tm_FT W x T M n T1 M1 n1) (tN : T NR = some (0, 1, 0)) (tL : T La = some (3, 1, o)) (w1 : W 100 = false) (w2 : W 103 = false) (w3 : W 153 = false) (w4 : W 5001 = false) : qT M1 La NR A fr va :=
  h.keepU h0 J tN tL w1 w2 (fun _ hR => tm_keepU J hR w3) (fun _ _ hg => tm_I.keepG h0 J tL w4 hg)
/-- one more -/
theorem qT.more {a : Nat} (h : qT M La NR A fr va) (g : tm_ge M La A a) (q : qO M a f V) : qT M La NR (A + 1) (fun i => if i = A then f else fr i) (fun i => if i = A then V else va i) := by
  refine ⟨h.1, fun i hi => ?_⟩
  by_cases e : i = A
  · subst e
    simp only [if_pos]
    exact ⟨a, g, q⟩
  · simp only [if_neg e]
    exact h.2 i (by omega)
theorem if_nat {j : Nat} {x : Int32} {a a1 b : Int} (h0 : 0 ≤ x.toInt) (e : a = a1) : (if j = x.toNatClampNeg then a else b) = if (j : Int) = x.toInt then a1 else b := by
  have := mz_nat9 h0
  subst e
  by_cases h : j = x.toNatClampNeg
  · rw [if_pos h, if_pos (by omega)]
  · rw [if_neg h, if_neg (by omega)]
theorem p_V_n {b : Nat → Int} {n j : Nat} {s t : p_S} {w : Int} {V : Nat → Int} (e : p_nx s = t) (hw : w + 13 = p_wi b n s.2.2) : (if (j : Int) = w then p_nm b n t.2.2 else V j) = p_V b n s V j := by
  subst e
  show _ = if p_wi b n s.2.2 = (j : Int) + 13 then p_nm b n (s.2.2 + 1) else V j
  by_cases h : (j : Int) = w
  · rw [if_pos h, if_pos (by omega)]
    rfl
  · rw [if_neg h, if_neg (by omega)]
theorem p_V_b {b : Nat → Int} {n j : Nat} {s : p_S} {V : Nat → Int} (h : p_wi b n s.2.2 = 23) (hj : j < 6) : V j = p_V b n s V j := (if_neg (show ¬ p_wi b n s.2.2 = (j : Int) + 13 by omega)).symm
theorem p_dv_r : ∀ j : Nat, j < 6 → (mj_rwf j).toInt = p_dv j := by decide
end DA
section DB
variable {g : mj_G} {l : Launch} {y : mj_Y} {d pc : Nat} {lv : List (Nat × Value)} {st : List Value} {M M0 M1 : mj_M} {nx n0 kc ks x o : Nat} {Q : Option Value → mj_M → Nat → Prop} {W : Nat → Bool} {T T0 : tm_H}
theorem tr_ialdC {o c k a e N : Nat} {i : Int32} (I : tm_I tm_FT W x T0 M0 n0 T M nx) (hq : tm_at M o c k (.ref a)) (ta : T a = some (1, e, N)) (he : e % 8 = 0) (hd : decode y.2.1 pc = .ok (.iaload, 1)) (hin : vp_in i N) (kk : ∀ v : Int32, v.toInt = ra M o k i.toNatClampNeg → mj_V g l y d (pc + 1) lv (.int v :: st) M nx kc ks Q) : mj_V g l y d pc lv (.int i :: .ref a :: st) M nx kc ks Q := by
  obtain ⟨f, hm⟩ := tm_arrI I ta (by omega)
  have hm0 := hm
  rw [he] at hm
  exact mv_iald hd hm hin rfl (kk _ (by rw [ra_of hq hm0]; rfl))
/-- a number of an object's row is written -/
theorem tr_iastC {c k a e N : Nat} {i v : Int32} (I : tm_I tm_FT W x T0 M0 n0 T M nx) (hq : tm_at M o c k (.ref a)) (ta : T a = some (1, e, N)) (he : e % 8 = 0) (hW : W (e / 8) = true ∨ n0 ≤ a) (hd : decode y.2.1 pc = .ok (.iastore, 1)) (hin : vp_in i N) (kk : ∀ M1, tm_I tm_FT W x T0 M0 n0 T M1 nx → (∀ (b c k : Nat) (w : Value), tm_at M b c k w → tm_at M1 b c k w) → (∀ j, ra M1 o k j = if j = i.toNatClampNeg then v.toInt else ra M o k j) → (∀ b, b ≠ a → M1 b = M b) → mj_V g l y d (pc + 1) lv st M1 nx kc ks Q) : mj_V g l y d pc lv (.int v :: .int i :: .ref a :: st) M nx kc ks Q := by
  obtain ⟨f, hm⟩ := tm_arrI I ta (by omega)
  have hm0 := hm
  rw [he] at hm
  have hra : ∀ j, ra M o k j = (f j).toInt := fun j => by rw [ra_of hq hm0]; rfl
  refine mv_iast hd hm hin rfl (kk _ (I.ast tm_okF ta hW (tm_c1 (by omega) (by rw [mj_up_self, he]))) (tm_at.ast hm0) (fun j => ?_) (fun b hb => mj_up_ne _ _ hb))
  have h1 := tm_at.ast (c9 := .inl (0, N, .inl (upd f i.toNatClampNeg v))) hm0 _ _ _ _ hq
  rw [ra_of h1 (mj_up_self _ _ _) j, hra]
  show (upd f i.toNatClampNeg v j).toInt = _
  unfold upd
  by_cases h : j = i.toNatClampNeg
  · rw [if_pos h, if_pos h]
  · rw [if_neg h, if_neg h]
theorem tr_cloneV {E index kc' ks' : Nat} (hF : tm_ok tm_FT) (I : tm_I tm_FT W x T0 M0 n0 T M nx) (hE : E % 8 = 0) (hd : decode y.2.1 pc = .ok (.invokevirtual index, 3)) (hw : Cond.methodLink y.1.cls index ⟨"[I", "clone", "()Ljava/lang/Object;"⟩ ∈ mj_T) (hcat : (st.map fun v => v.category).sum ≤ 8) (hkc : kc' + 1 ≤ kc) (hks : ks' + 6 ≤ ks) (kk : ∀ (T1 : tm_H) (M1 : mj_M), tm_I tm_FT W x T0 M0 n0 T1 M1 (nx + 1) → T1 nx = some (1, E, 6) → (∀ b t, T b = some t → T1 b = some t) → (∀ b t, T b = some t → M1 b = M b) → M1 nx = some (.inl (0, 6, .inl mj_rwf)) → mj_V g l y (d + 1) (pc + 3) lv (.ref nx :: st) M1 (nx + 1) kc' ks' Q) : mj_V g l y (d + 1) pc lv (.ref 1 :: st) M nx kc ks Q :=
  mv_cloneR hd hw hcat hkc hks (kk _ _ (I.arr hF (fun T1 => tm_c1 (by omega) (by rw [mj_up_self, hE]))) (if_pos rfl) (fun b t h => (if_neg (tm_ne I h)).trans h) (fun b t h => mj_up_ne _ _ (tm_ne I h)) (mj_up_self _ _ _))
end DB
/-! THE ACT IN FORCE: the desk looks from the first on -/
def qF (M : mj_M) (b : Nat) (fr : Nat → Int) (va : Nat → Nat → Int) (day : Int) (i : Nat) : Prop := ∃ f : Int, qO M b f (fun w => p_told fr va day i w) ∧ (p_on fr day i = -1 ∧ f = 0 ∨ 0 ≤ p_on fr day i ∧ f = fr (p_on fr day i).toNat)
section DF
variable {M : mj_M} {a b i La NR A : Nat} {fr : Nat → Int} {va : Nat → Nat → Int} {day f : Int} {va1 vb : Int32}
theorem qO.ext {V W : Nat → Int} (h : qO M a f V) (e : ∀ w, w < 6 → V w = W w) : qO M a f W := by
  obtain ⟨v, R, h1, h2, h3, h4⟩ := h
  exact ⟨v, R, h1, h2, h3, fun w hw => (h4 w hw).trans (e w hw)⟩
theorem qF.zero (h : qO M NR 0 p_dv) : qF M NR fr va day 0 := ⟨0, h.ext (fun w _ => (if_pos rfl).symm), Or.inl ⟨rfl, rfl⟩⟩
/-- the one at hand is taken -/
theorem qF.yes (h : qF M b fr va day i) (q : qO M a (fr i) (va i)) (ha : tm_at M a 1 0 (.int va1)) (hb : tm_at M b 1 0 (.int vb)) (h1 : va1.toInt ≤ day) (h2 : vb.toInt ≤ va1.toInt) (h0 : 0 ≤ fr i) : qF M a fr va day (i + 1) := by
  obtain ⟨f, ⟨v, R, q1, q2, q3, q4⟩, h3⟩ := h
  obtain ⟨v9, R9, r1, r2, r3, r4⟩ := q
  have e1 := tm_at.fnI hb q1
  have e2 := tm_at.fnI ha r1
  subst e1
  subst e2
  have e : p_on fr day (i + 1) = (i : Int) := if_pos ⟨by omega, by rcases h3 with h3 | h3; exact Or.inl h3.1; exact Or.inr (by omega)⟩
  refine ⟨fr i, ⟨va1, R9, r1, r2, r3, fun w hw => ?_⟩, Or.inr ⟨by omega, by rw [e]; rfl⟩⟩
  show _ = if p_on fr day (i + 1) = -1 then p_dv w else va (p_on fr day (i + 1)).toNat w
  rw [e, if_neg (by omega)]
  exact r4 w hw
/-- it isn't -/
theorem qF.no (h : qF M b fr va day i) (q : qO M a (fr i) (va i)) (ha : tm_at M a 1 0 (.int va1)) (h1 : ¬ va1.toInt ≤ day ∨ ∃ vb : Int32, tm_at M b 1 0 (.int vb) ∧ ¬ vb.toInt ≤ va1.toInt) (h0 : 0 ≤ fr i) : qF M b fr va day (i + 1) := by
  obtain ⟨f, ⟨v, R, q1, q2, q3, q4⟩, h3⟩ := h
  obtain ⟨v9, R9, r1, r2, r3, r4⟩ := q
  have e2 := tm_at.fnI ha r1
  subst e2
  have hv : ¬ va1.toInt ≤ day ∨ ¬ v.toInt ≤ va1.toInt := by
    rcases h1 with h1 | ⟨vb, h4, h5⟩
    · exact Or.inl h1
    · have e1 := tm_at.fnI h4 q1
      subst e1
      exact Or.inr h5
  have e : p_on fr day (i + 1) = p_on fr day i := if_neg fun h9 => by
    obtain ⟨h8, h7⟩ := h9
    rcases h3 with h3 | h3
    · omega
    · rcases h7 with h7 | h7 <;> omega
  refine ⟨f, ⟨v, R, q1, q2, q3, fun w hw => ?_⟩, ?_⟩
  · show _ = if p_on fr day (i + 1) = -1 then p_dv w else va (p_on fr day (i + 1)).toNat w
    rw [e]
    exact q4 w hw
  · rw [e]
    exact h3
end DF
def w_Act_setRule_a : List Nat := [153]
set_option maxHeartbeats 100000000 in theorem tc_Act_setRule_a {g : mj_G} {l : Launch} {d : Nat} {T0 : tm_H} {M0 : mj_M} {n0 x9 : Nat} {o0 : Nat} {x1 : Int32} {x2 : Int32} (h_o0 : T0 o0 = some (0, 1, 0)) {R1 : Nat} (t_R1 : T0 R1 = some (1, 1224, 6)) (yr : tm_at M0 o0 1 3 (.ref R1)) (yx : 0 ≤ x1.toInt ∧ x1.toInt ≤ 5) (I0 : tm_I tm_FT (tm_in w_Act_setRule_a) x9 T0 M0 n0 T0 M0 n0) : mj_Met g l kY_Act_setRule d [.ref o0, .int x1, .int x2] M0 n0 0 0 (tm_Q tm_FT (tm_in w_Act_setRule_a) x9 T0 M0 n0 (fun r _ M => r = none ∧ (∀ j : Nat, ra M o0 3 j = if j = x1.toNatClampNeg then x2.toInt else ra M0 o0 3 j) ∧ (∀ R : Nat, T0 R = some (1, 1224, 6) → R ≠ R1 → M R = M0 R))) := by
  refine mj_enter (by decide) (Nat.le_of_ble_eq_true rfl) ?_
  refine mv_iload_n d_Act_setRule_0 rfl rfl ?_
  have := mz_hi x1
  refine mv_if_ltZ (tgt := 20) (a := x1.toInt) d_Act_setRule_1 (by decide) rfl (fun b1 => ?_) (fun b1 => ?_)
  · exact mv_vret d_Act_setRule_20 rfl ⟨_, I0, rfl, (by exfalso; omega), (by exfalso; omega)⟩
  · refine mv_iload_n d_Act_setRule_4 rfl rfl ?_
    refine mv_aload_n d_Act_setRule_5 rfl rfl ?_
    refine tr_getK (k := 3) yr d_Act_setRule_6 f_Act_27_1 ?_
    refine tr_alen (v := 6) I0 t_R1 (by decide) (by decide) d_Act_setRule_9 ?_
    have := mz_hi x1
    refine mv_icmp_geZ (tgt := 20) (a := x1.toInt) (b := 6) d_Act_setRule_10 (by decide) rfl (by decide) (fun b2 => ?_) (fun b2 => ?_)
    · exact mv_vret d_Act_setRule_20 rfl ⟨_, I0, rfl, (by exfalso; omega), (by exfalso; omega)⟩
    · refine mv_aload_n d_Act_setRule_13 rfl rfl ?_
      refine tr_getK (k := 3) yr d_Act_setRule_14 f_Act_27_1 ?_
      refine mv_iload_n d_Act_setRule_17 rfl rfl ?_
      refine mv_iload_n d_Act_setRule_18 rfl rfl ?_
      refine tr_iastC (o := o0) (c := 1) (k := 3) I0 yr t_R1 (by decide) (Or.inl (by decide)) d_Act_setRule_19 (vp_in_iff.mpr (by omega)) (fun M3 I4 K5 E6 K7 => ?_)
      exact mv_vret d_Act_setRule_20 rfl ⟨_, I4, rfl, E6, fun R _ hx => K7 R hx⟩
def w_Reader_ruleNumber_a : List Nat := [153, 901, 902, 909, 910, 911, 912, 913, 914]
set_option maxHeartbeats 100000000 in theorem tc_Reader_ruleNumber_a {g : mj_G} {l : Launch} {d : Nat} {T0 : tm_H} {M0 : mj_M} {n0 x9 : Nat} {o0 : Nat} {o1 : Nat} {x2 : Int32} (h_o0 : T0 o0 = some (0, 9, 0)) (h_o1 : T0 o1 = some (0, 1, 0))  {pb : Nat → Int} {pn : Nat} {pa : Int} {ps : p_S} (yC : qC M0 o0 pb pn pa) (yD : qS M0 o0 pb pn ps) (yw : ps.1 = 0) (yx : 0 ≤ x2.toInt ∧ x2.toInt ≤ 5) {R1 : Nat} (t_R1 : T0 R1 = some (1, 1224, 6)) (yr : tm_at M0 o1 1 3 (.ref R1)) (I0 : tm_I tm_FT (tm_in w_Reader_ruleNumber_a) x9 T0 M0 n0 T0 M0 n0) : mj_Met g l kY_Reader_ruleNumber (d + 2) [.ref o0, .ref o1, .int x2] M0 n0 0 0 (tm_Q tm_FT (tm_in w_Reader_ruleNumber_a) x9 T0 M0 n0 (fun r _ M => ∃ v : Int32, r = some (.int v) ∧ 0 ≤ v.toInt ∧ v.toInt ≤ 1 ∧ (qS M o0 pb pn (p_num pb pn (p_lo (x2.toInt + 13)) (p_hi (x2.toInt + 13)) ps)) ∧ (v.toInt = 1 ∧ (p_num pb pn (p_lo (x2.toInt + 13)) (p_hi (x2.toInt + 13)) ps).1 = 0 ∨ v.toInt = 0 ∧ (p_num pb pn (p_lo (x2.toInt + 13)) (p_hi (x2.toInt + 13)) ps).1 ≠ 0) ∧ (v.toInt = 1 → ∀ j : Nat, j < 6 → ra M o1 3 j = if (j : Int) = x2.toInt then p_nm pb pn ps.2.2 else ra M0 o1 3 j) ∧ (∀ R : Nat, T0 R = some (1, 1224, 6) → R ≠ R1 → M R = M0 R))) := by
  refine mj_enter (by decide) (Nat.le_of_ble_eq_true rfl) ?_
  have hK : ∀ {T : tm_H} {M : mj_M} {n : Nat}, tm_I tm_FT (tm_in w_Reader_ruleNumber_a) x9 T0 M0 n0 T M n → qC M o0 pb pn pa := fun I => yC.keep I0.1 I h_o0 (qW_of (by decide +kernel))
  obtain ⟨v1, v2, v3, v4, v5, v6, v7, q8, q9, q10, q11, q12, q13, q14, h15, h16, h17⟩ := yD
  replace h16 := Im.i h16
  replace h17 := Im.i h17
  have V0 : ∀ j : Nat, j < 6 → ra M0 o1 3 j = (fun j => ra M0 o1 3 j) j := fun _ _ => rfl
  have U0 : ∀ R : Nat, T0 R = some (1, 1224, 6) → R ≠ R1 → M0 R = M0 R := fun R _ _ => rfl
  refine mv_iload_n d_Reader_ruleNumber_0 rfl rfl ?_
  have := mz_hi x2
  refine mv_if_ltZ (tgt := 37) (a := x2.toInt) d_Reader_ruleNumber_1 (by decide) rfl (fun b18 => ?_) (fun b18 => ?_)
  · refine mv_iconst (v := 0) d_Reader_ruleNumber_37 (by decide) ?_
    exact mv_iret d_Reader_ruleNumber_38 rfl (by decide) ⟨_, I0, _, rfl, by decide, by decide, (by exfalso; omega)⟩
  · refine mv_iload_n d_Reader_ruleNumber_4 rfl rfl ?_
    refine mv_gets2 d_Reader_ruleNumber_5 (mj_in1 (List.mem_of_getElem? (i := 617) (by decide +kernel)) rfl) ?_
    refine mv_alen2 d_Reader_ruleNumber_8 ?_
    have := mz_hi x2
    refine mv_icmp_geZ (tgt := 37) (a := x2.toInt) (b := 6) d_Reader_ruleNumber_9 (by decide) rfl (by decide) (fun b19 => ?_) (fun b19 => ?_)
    · refine mv_iconst (v := 0) d_Reader_ruleNumber_37 (by decide) ?_
      exact mv_iret d_Reader_ruleNumber_38 rfl (by decide) ⟨_, I0, _, rfl, by decide, by decide, (by exfalso; omega)⟩
    · refine mv_iload_n d_Reader_ruleNumber_12 rfl rfl ?_
      refine mv_gets3 d_Reader_ruleNumber_13 (mj_in1 (List.mem_of_getElem? (i := 619) (by decide +kernel)) rfl) ?_
      refine mv_alen3 d_Reader_ruleNumber_16 ?_
      have := mz_hi x2
      refine mv_icmp_geZ (tgt := 37) (a := x2.toInt) (b := 6) d_Reader_ruleNumber_17 (by decide) rfl (by decide) (fun b20 => absurd b20 (by omega)) (fun b20 => ?_)
      refine mv_aload_n d_Reader_ruleNumber_20 rfl rfl ?_
      refine mv_gets2 d_Reader_ruleNumber_21 (mj_in1 (List.mem_of_getElem? (i := 617) (by decide +kernel)) rfl) ?_
      refine mv_iload_n d_Reader_ruleNumber_24 rfl rfl ?_
      obtain ⟨v21, q22⟩ := tm_rl (i := x2) (by omega) (by omega)
      have := tm_rlv (i := x2) (by omega) (by omega) q22
      refine mv_iald2 (v := v21) d_Reader_ruleNumber_25 (vp_in_iff.mpr (by omega)) q22 ?_
      refine mv_gets3 d_Reader_ruleNumber_26 (mj_in1 (List.mem_of_getElem? (i := 619) (by decide +kernel)) rfl) ?_
      refine mv_iload_n d_Reader_ruleNumber_29 rfl rfl ?_
      obtain ⟨v23, q24⟩ := tm_rm (i := x2) (by omega) (by omega)
      have := tm_rmv (i := x2) (by omega) (by omega) q24
      refine mv_iald3 (v := v23) d_Reader_ruleNumber_30 (vp_in_iff.mpr (by omega)) q24 ?_
      obtain ⟨_, b31, -⟩ := I0.1 _ _ h_o0
      refine mv_callV (kc' := 0) (ks' := 0) (As := [.int v21, .int v23]) (st9 := [.int v23, .int v21, .ref o0]) d_Reader_ruleNumber_31 lV_Reader_107 b31 rfl (tc_Reader_numeral_x (d := d) (x9 := x9) (o0 := o0) (x1 := v21) (x2 := v23) h_o0 (hK I0) ⟨_, _, _, _, _, _, _, q8, q9, q10, q11, q12, q13, q14, h15, Im.o h16, Im.o h17⟩ (by omega) I0.start) rfl (Nat.le_of_ble_eq_true rfl) (Nat.le_of_ble_eq_true rfl) (Nat.le_of_ble_eq_true rfl) (hst := rfl) (fun b25r M26 n27 b25 => ?_)
      obtain ⟨T28, J29, v32, rfl, b33, b34, f35, f36, f37⟩ := b25
      have I30 := I0.call J29 (tm_sub (by decide)) (Or.inl rfl)
      have t38 := J29.up h_o0
      have t39 := J29.up h_o1
      have K40 : ∀ R : Nat, T0 R = some (1, 1224, 6) → R ≠ R1 → M26 R = M0 R := fun R h hx => (tm_keepU J29 (I0.up h) (by decide)).trans (U0 R h hx)
      have K41 : ∀ j : Nat, j < 6 → ra M26 o1 3 j = (fun j => ra M0 o1 3 j) j := fun j hj => (ra_u yr (J29.keep h_o1 (by decide) yr) (tm_keepU J29 t_R1 (by decide)) j).trans (V0 j hj)
      have q42 := J29.keep h_o1 (by decide) yr
      have t43 := J29.up t_R1
      rw [show v21.toInt = p_lo (x2.toInt + 13) from by omega, show v23.toInt = p_hi (x2.toInt + 13) from by omega] at f35 f36
      obtain ⟨s44, e45⟩ : ∃ s9 : p_S, p_num pb pn (p_lo (x2.toInt + 13)) (p_hi (x2.toInt + 13)) ps = s9 := ⟨_, rfl⟩
      rw [e45] at f35 f36
      obtain ⟨v46, v47, v48, v49, v50, v51, v52, q53, q54, q55, q56, q57, q58, q59, h60, h61, h62⟩ := f35
      replace h61 := Im.i h61
      replace h62 := Im.i h62
      obtain ⟨v63, q64, h65⟩ := f37
      have := mz_hi v32
      refine mv_if_neZ (tgt := 39) (a := v32.toInt) d_Reader_ruleNumber_34 (by decide) rfl (fun b66 => ?_) (fun b66 => ?_)
      · refine mv_aload_n d_Reader_ruleNumber_39 rfl rfl ?_
        refine mv_iload_n d_Reader_ruleNumber_40 rfl rfl ?_
        refine mv_aload_n d_Reader_ruleNumber_41 rfl rfl ?_
        refine tr_getK (k := 14) q64 d_Reader_ruleNumber_42 f_Reader_111_9 ?_
        obtain ⟨_, b73, -⟩ := I30.1 _ _ t39
        refine mv_callV (kc' := 0) (ks' := 0) (As := [.int x2, .int v63]) (st9 := [.int v63, .int x2, .ref o1]) d_Reader_ruleNumber_45 lV_Reader_114 b73 rfl (tc_Act_setRule_a (d := (d + 1)) (x9 := x9) (o0 := o1) (x1 := x2) (x2 := v63) t39 t43 q42 (by omega) I30.start) rfl (Nat.le_of_ble_eq_true rfl) (Nat.le_of_ble_eq_true rfl) (Nat.le_of_ble_eq_true rfl) (hst := rfl) (fun b67r M68 n69 b67 => ?_)
        obtain ⟨T70, J71, rfl, E74, U75⟩ := b67
        have I72 := I30.call J71 (tm_sub (by decide)) (Or.inl rfl)
        have t76 := J71.up t38
        have t77 := J71.up t39
        have K78 : ∀ R : Nat, T0 R = some (1, 1224, 6) → R ≠ R1 → M68 R = M0 R := fun R h hx => (U75 R (I30.up h) hx).trans (K40 R h hx)
        have K79 : ∀ j : Nat, j < 6 → ra M68 o1 3 j = (fun j => if j = x2.toNatClampNeg then v63.toInt else (fun j => ra M0 o1 3 j) j) j := fun j hj => (E74 j).trans (by rw [K41 j hj])
        have q80 := J71.keep t39 (by decide) q42
        have t81 := J71.up t43
        have q82 := J71.keep (I30.up h_o0) (by decide) q53
        have q83 := J71.keep (I30.up h_o0) (by decide) q54
        have q84 := J71.keep (I30.up h_o0) (by decide) q55
        have q85 := J71.keep (I30.up h_o0) (by decide) q56
        have q86 := J71.keep (I30.up h_o0) (by decide) q57
        have q87 := J71.keep (I30.up h_o0) (by decide) q58
        have q88 := J71.keep (I30.up h_o0) (by decide) q59
        have q89 := J71.keep (I30.up h_o0) (by decide) q64
        refine mv_iconst (v := 1) d_Reader_ruleNumber_48 (by decide) ?_
        exact mv_iret d_Reader_ruleNumber_49 rfl (by decide) ⟨_, I72, _, rfl, by decide, by decide, (by have eT : p_num pb pn (p_lo (x2.toInt + 13)) (p_hi (x2.toInt + 13)) ps = s44 := (by (try simp only [e45])); rw [eT]; exact ⟨⟨_, _, _, _, _, _, _, q82, q83, q84, q85, q86, q87, q88, h60, Im.o h61, Im.o h62⟩, (Or.inl ⟨by first | decide | omega, by omega⟩), (fun _ j hj => (K79 j hj).trans (if_nat (by omega) (by omega))), K78⟩)⟩
      · refine mv_iconst (v := 0) d_Reader_ruleNumber_37 (by decide) ?_
        exact mv_iret d_Reader_ruleNumber_38 rfl (by decide) ⟨_, I30, _, rfl, by decide, by decide, (by have hb : s44.1 ≠ 0 := (by omega); have z1 : ∀ c, p_sg pb pn c s44 = s44 := (fun c => p_sg_Z s44 hb); have z2 : ∀ c, p_wd pb pn c s44 = s44 := (fun c => p_wd_Z s44 hb); have z3 : ∀ op, p_sum pb pn pa op s44 = s44 := (fun op => p_sum_Z s44 hb); have z4 : ∀ r oc, p_con pb pn pa r oc s44 = s44 := (fun r oc => p_con_Z s44 hb); have z5 : p_prt pb pn s44 = s44 := p_prt_Z s44 hb; have eT : p_num pb pn (p_lo (x2.toInt + 13)) (p_hi (x2.toInt + 13)) ps = s44 := (by (try simp only [e45, z1, z2, z3, z4, z5])); rw [eT]; exact ⟨⟨_, _, _, _, _, _, _, q53, q54, q55, q56, q57, q58, q59, h60, Im.o h61, Im.o h62⟩, (Or.inr ⟨by first | decide | omega, by omega⟩), (fun h9 => absurd h9 (by decide)), K40⟩)⟩
def w_Reader_rule_q4_a : List Nat := [101, 153, 154, 901, 902, 909, 910, 911, 912, 913, 914, 916, 918, 967, 5002]
set_option maxHeartbeats 100000000 in theorem tc_Reader_rule_q4_a {g : mj_G} {l : Launch} {d : Nat} {T0 : tm_H} {M0 : mj_M} {n0 x9 : Nat} {o0 : Nat} {o1 : Nat} (h_o0 : T0 o0 = some (0, 9, 0)) (h_o1 : T0 o1 = some (0, 1, 0)) {p : Int32} (hO : tm_at M0 o0 9 16 (.int p)) (hp : 0 ≤ p.toInt)  (hp2 : p.toInt ≤ 0) {pb : Nat → Int} {pn : Nat} {pa : Int} {ps : p_S} (yC : qC M0 o0 pb pn pa) (yD : qS M0 o0 pb pn ps) (yw : ps.1 = 0) {pc9 : Nat} {cv : Int32} (yc : tm_at M0 o1 1 1 (.int cv)) (yc9 : cv.toInt = (pc9 : Int)) {R1 : Nat} (t_R1 : T0 R1 = some (1, 1224, 6)) (yr : tm_at M0 o1 1 3 (.ref R1)) {va0 : Nat → Int} (yV : ∀ j : Nat, j < 6 → ra M0 o1 3 j = va0 j) (I0 : tm_I tm_FT (tm_in w_Reader_rule_q4_a) x9 T0 M0 n0 T0 M0 n0) : mj_Met g l kY_Reader_rule (d + 21) [.ref o0, .ref o1] M0 n0 3 451 (tm_Q tm_FT (tm_in w_Reader_rule_q4_a) x9 T0 M0 n0 (fun r _ M => ∃ v : Int32, r = some (.int v) ∧ 0 ≤ v.toInt ∧ v.toInt ≤ 1 ∧ (v.toInt = 1 → tm_at M o0 9 16 (.int p)) ∧ (qS M o0 pb pn (p_rul pb pn pa pc9 ps)) ∧ (v.toInt = 1 ∧ (p_rul pb pn pa pc9 ps).1 = 0 ∨ v.toInt = 0 ∧ (p_rul pb pn pa pc9 ps).1 ≠ 0) ∧ (∃ c1 : Int32, tm_at M o1 1 1 (.int c1) ∧ (v.toInt = 1 → c1.toInt = (pc9 : Int) + 1)) ∧ (v.toInt = 1 → ∀ j : Nat, j < 6 → ra M o1 3 j = p_V pb pn ps va0 j) ∧ (∀ R : Nat, T0 R = some (1, 1224, 6) → R ≠ R1 → M R = M0 R))) := by
  refine mj_enter (by decide) (Nat.le_of_ble_eq_true rfl) ?_
  have hK : ∀ {T : tm_H} {M : mj_M} {n : Nat}, tm_I tm_FT (tm_in w_Reader_rule_q4_a) x9 T0 M0 n0 T M n → qC M o0 pb pn pa := fun I => yC.keep I0.1 I h_o0 (qW_of (by decide +kernel))
  obtain ⟨v1, v2, v3, v4, v5, v6, v7, q8, q9, q10, q11, q12, q13, q14, h15, h16, h17⟩ := yD
  replace h16 := Im.i h16
  replace h17 := Im.i h17
  have U0 : ∀ R : Nat, T0 R = some (1, 1224, 6) → R ≠ R1 → M0 R = M0 R := fun R _ _ => rfl
  refine mv_aload_n d_Reader_rule_0 rfl rfl ?_
  refine mv_bipush (v := 13) d_Reader_rule_1 (by decide) ?_
  refine mv_bipush (v := 6) d_Reader_rule_3 (by decide) ?_
  obtain ⟨_, b18, -⟩ := I0.1 _ _ h_o0
  refine mv_callV (kc1 := 0) (ks1 := 0) (kc' := 3) (ks' := 451) (As := [.int 13, .int 6]) (st9 := [.int 6, .int 13, .ref o0]) d_Reader_rule_5 lV_Reader_85 b18 rfl (mj_enter (by decide) (Nat.le_of_ble_eq_true rfl) ?_) rfl (Nat.le_of_ble_eq_true rfl) (Nat.le_of_ble_eq_true rfl) (Nat.le_of_ble_eq_true rfl) (hst := rfl) (fun _ _ _ h => h)
  refine mv_aload_n d_Reader_valueAmong_0 rfl rfl ?_
  refine tr_getK (k := 10) q11 d_Reader_valueAmong_1 f_Reader_41_9 ?_
  refine mv_iconst (v := 1) d_Reader_valueAmong_4 (by decide) ?_
  have := mz_hi v4
  refine mv_icmp_neZ (tgt := 35) (a := v4.toInt) (b := 1) d_Reader_valueAmong_5 (by decide) rfl (by decide) (fun b19 => ?_) (fun b19 => ?_)
  · refine mv_iconst (v := (-1)) d_Reader_valueAmong_35 (by decide) ?_
    refine mv_iret d_Reader_valueAmong_36 rfl (by first | rfl | decide) ?_
    refine mv_istore_n (lv' := [(2, .int (-1)), (0, .ref o0), (1, .ref o1)]) d_Reader_rule_8 rfl (by decide) rfl ?_
    refine mv_aload_n d_Reader_rule_9 rfl rfl ?_
    refine mv_bipush (v := 23) d_Reader_rule_10 (by decide) ?_
    obtain ⟨_, b20, -⟩ := I0.1 _ _ h_o0
    refine mv_callV (kc1 := 0) (ks1 := 0) (kc' := 0) (ks' := 0) (As := [.int 23]) (st9 := [.int 23, .ref o0]) d_Reader_rule_12 lV_Reader_52 b20 rfl (mj_enter (by decide) (Nat.le_of_ble_eq_true rfl) ?_) rfl (Nat.le_of_ble_eq_true rfl) (Nat.le_of_ble_eq_true rfl) (Nat.le_of_ble_eq_true rfl) (hst := rfl) (fun _ _ _ h => h)
    refine mv_aload_n d_Reader_isWord_0 rfl rfl ?_
    refine tr_getK (k := 10) q11 d_Reader_isWord_1 f_Reader_41_9 ?_
    refine mv_iconst (v := 1) d_Reader_isWord_4 (by decide) ?_
    have := mz_hi v4
    refine mv_icmp_neZ (tgt := 20) (a := v4.toInt) (b := 1) d_Reader_isWord_5 (by decide) rfl (by decide) (fun b21 => ?_) (fun b21 => absurd b21 (by omega))
    refine mv_iconst (v := 0) d_Reader_isWord_20 (by decide) ?_
    refine mv_iret d_Reader_isWord_21 rfl (by decide) ?_
    refine mv_istore_n (lv' := [(3, .int 0), (2, .int (-1)), (0, .ref o0), (1, .ref o1)]) d_Reader_rule_15 rfl (by decide) rfl ?_
    refine mv_iload_n d_Reader_rule_16 rfl rfl ?_
    refine mv_iconst (v := (-1)) d_Reader_rule_17 (by decide) ?_
    refine mv_icmp_ne_f (tgt := 31) d_Reader_rule_18 (by decide) (by decide) ?_
    refine mv_iload_n d_Reader_rule_21 rfl rfl ?_
    refine mv_if_ne_f (tgt := 31) d_Reader_rule_22 (by decide) (by decide) ?_
    refine mv_aload_n d_Reader_rule_25 rfl rfl ?_
    refine mv_iconst (v := 1) d_Reader_rule_26 (by decide) ?_
    obtain ⟨_, b22, -⟩ := I0.1 _ _ h_o0
    refine mv_callV (kc1 := 0) (ks1 := 0) (kc' := 0) (ks' := 0) (As := [.int 1]) (st9 := [.int 1, .ref o0]) d_Reader_rule_27 lV_Reader_56 b22 rfl (mj_enter (by decide) (Nat.le_of_ble_eq_true rfl) ?_) rfl (Nat.le_of_ble_eq_true rfl) (Nat.le_of_ble_eq_true rfl) (Nat.le_of_ble_eq_true rfl) (hst := rfl) (fun _ _ _ h => h)
    refine mv_aload_n d_Reader_refuse_0 rfl rfl ?_
    refine mv_iload_n d_Reader_refuse_1 rfl rfl ?_
    refine tr_putKM tm_okF I0 h_o0 (k := 1) rfl ⟨_, rfl⟩ (Or.inl (by decide)) d_Reader_refuse_2 p_Reader_70_9 rfl rfl (fun M23 I24 q25 K26 K26M => ?_)
    have K27 : ∀ R : Nat, T0 R = some (1, 1224, 6) → R ≠ R1 → M23 R = M0 R := fun R h hx => (K26M _ (tm_dif (I0.up h) h_o0 rfl)).trans (U0 R h hx)
    have K28 : ∀ j : Nat, j < 6 → ra M23 o1 3 j = va0 j := fun j hj => (ra_u yr (K26 _ 1 3 _ rfl yr) (K26M _ (tm_dif t_R1 h_o0 rfl)) j).trans (yV j hj)
    refine mv_aload_n d_Reader_refuse_5 rfl rfl ?_
    refine mv_aload_n d_Reader_refuse_6 rfl rfl ?_
    refine tr_getK (k := 11) (K26 _ 9 11 _ rfl q12) d_Reader_refuse_7 f_Reader_175_9 ?_
    refine tr_putKM tm_okF I24 h_o0 (k := 2) rfl ⟨_, rfl⟩ (Or.inl (by decide)) d_Reader_refuse_10 p_Reader_11_9 rfl rfl (fun M29 I30 q31 K32 K32M => ?_)
    have K33 : ∀ R : Nat, T0 R = some (1, 1224, 6) → R ≠ R1 → M29 R = M0 R := fun R h hx => (K32M _ (tm_dif (I24.up h) h_o0 rfl)).trans (K27 R h hx)
    have K34 : ∀ j : Nat, j < 6 → ra M29 o1 3 j = va0 j := fun j hj => (ra_u (K26 _ 1 3 _ rfl yr) (K32 _ 1 3 _ rfl (K26 _ 1 3 _ rfl yr)) (K32M _ (tm_dif t_R1 h_o0 rfl)) j).trans (K28 j hj)
    refine mv_iconst (v := 0) d_Reader_refuse_13 (by decide) ?_
    obtain ⟨s35, e36⟩ : ∃ s9 : p_S, p_fl pb pn 1 ps = s9 := ⟨_, rfl⟩
    have h37 := q_fl e36 (by omega) (by decide)
    have h38 : (1 : Int32).toInt = s35.1 := (by have e9 : (1 : Int32).toInt = 1 := (by decide); omega)
    have h39 : Im (s35.1 ≠ 0 → v5.toInt = (s35.2.1 : Int)) := Im.i (fun _ => by have := (Im.o h17) (by omega); omega)
    have h40 : Im (s35.1 = 0 → v3.toInt = (s35.2.2 : Int) ∧ v4.toInt = p_ki pb pn s35.2.2 ∧ v5.toInt = (p_st pb pn s35.2.2 : Int) ∧ v6.toInt = (p_sp pb pn s35.2.2 : Int) ∧ v7.toInt = p_va pb pn s35.2.2 ∧ v5.toInt = -1) := Im.i (fun z9 => absurd z9 h37.2.2)
    refine mv_iret d_Reader_refuse_14 rfl (by decide) ?_
    exact mv_iret d_Reader_rule_30 rfl (by decide) ⟨_, I30, _, rfl, by decide, by decide, fun h => absurd h (by decide), (by have := (Im.o h17) (by omega); have := yC.d ps.2.2; have := yC.kn ps.2.2; have hb : s35.1 ≠ 0 := (by omega); have z1 : ∀ c, p_sg pb pn c s35 = s35 := (fun c => p_sg_Z s35 hb); have z2 : ∀ c, p_wd pb pn c s35 = s35 := (fun c => p_wd_Z s35 hb); have z3 : ∀ op, p_sum pb pn pa op s35 = s35 := (fun op => p_sum_Z s35 hb); have z4 : ∀ r oc, p_con pb pn pa r oc s35 = s35 := (fun r oc => p_con_Z s35 hb); have z5 : p_prt pb pn s35 = s35 := p_prt_Z s35 hb; have eT : p_rul pb pn pa pc9 ps = s35 := (by unfold p_rul; (try simp only [e36, z1, z2, z3, z4, z5]); ((repeat' (first | (with_reducible rfl) | split)) <;> (first | ((try simp only [e36, z1, z2, z3, z4, z5]); done) | (exfalso; omega)))); rw [eT]; exact ⟨⟨_, _, _, _, _, _, _, (K32 _ 9 1 _ rfl q25), q31, (K32 _ 9 9 _ rfl (K26 _ 9 9 _ rfl q10)), (K32 _ 9 10 _ rfl (K26 _ 9 10 _ rfl q11)), (K32 _ 9 11 _ rfl (K26 _ 9 11 _ rfl q12)), (K32 _ 9 12 _ rfl (K26 _ 9 12 _ rfl q13)), (K32 _ 9 13 _ rfl (K26 _ 9 13 _ rfl q14)), h38, Im.o h39, Im.o h40⟩, (Or.inr ⟨by first | decide | omega, by omega⟩), ⟨_, (K32 _ 1 1 _ rfl (K26 _ 1 1 _ rfl yc)), fun h => absurd h (by decide)⟩, (fun h9 => absurd h9 (by decide)), K33⟩)⟩
  · refine mv_aload_n d_Reader_valueAmong_8 rfl rfl ?_
    refine tr_getK (k := 13) q14 d_Reader_valueAmong_9 f_Reader_241_9 ?_
    refine mv_iload_n d_Reader_valueAmong_12 rfl rfl ?_
    have := mz_hi v7
    refine mv_icmp_ltZ (tgt := 35) (a := v7.toInt) (b := 13) d_Reader_valueAmong_13 (by decide) rfl (by decide) (fun b41 => ?_) (fun b41 => ?_)
    · refine mv_iconst (v := (-1)) d_Reader_valueAmong_35 (by decide) ?_
      refine mv_iret d_Reader_valueAmong_36 rfl (by first | rfl | decide) ?_
      refine mv_istore_n (lv' := [(2, .int (-1)), (0, .ref o0), (1, .ref o1)]) d_Reader_rule_8 rfl (by decide) rfl ?_
      refine mv_aload_n d_Reader_rule_9 rfl rfl ?_
      refine mv_bipush (v := 23) d_Reader_rule_10 (by decide) ?_
      obtain ⟨_, b42, -⟩ := I0.1 _ _ h_o0
      refine mv_callV (kc1 := 0) (ks1 := 0) (kc' := 0) (ks' := 0) (As := [.int 23]) (st9 := [.int 23, .ref o0]) d_Reader_rule_12 lV_Reader_52 b42 rfl (mj_enter (by decide) (Nat.le_of_ble_eq_true rfl) ?_) rfl (Nat.le_of_ble_eq_true rfl) (Nat.le_of_ble_eq_true rfl) (Nat.le_of_ble_eq_true rfl) (hst := rfl) (fun _ _ _ h => h)
      refine mv_aload_n d_Reader_isWord_0 rfl rfl ?_
      refine tr_getK (k := 10) q11 d_Reader_isWord_1 f_Reader_41_9 ?_
      refine mv_iconst (v := 1) d_Reader_isWord_4 (by decide) ?_
      have := mz_hi v4
      refine mv_icmp_neZ (tgt := 20) (a := v4.toInt) (b := 1) d_Reader_isWord_5 (by decide) rfl (by decide) (fun b43 => absurd b43 (by omega)) (fun b43 => ?_)
      refine mv_aload_n d_Reader_isWord_8 rfl rfl ?_
      refine tr_getK (k := 13) q14 d_Reader_isWord_9 f_Reader_241_9 ?_
      refine mv_iload_n d_Reader_isWord_12 rfl rfl ?_
      have := mz_hi v7
      refine mv_icmp_neZ (tgt := 20) (a := v7.toInt) (b := 23) d_Reader_isWord_13 (by decide) rfl (by decide) (fun b44 => ?_) (fun b44 => absurd b44 (by omega))
      refine mv_iconst (v := 0) d_Reader_isWord_20 (by decide) ?_
      refine mv_iret d_Reader_isWord_21 rfl (by decide) ?_
      refine mv_istore_n (lv' := [(3, .int 0), (2, .int (-1)), (0, .ref o0), (1, .ref o1)]) d_Reader_rule_15 rfl (by decide) rfl ?_
      refine mv_iload_n d_Reader_rule_16 rfl rfl ?_
      refine mv_iconst (v := (-1)) d_Reader_rule_17 (by decide) ?_
      refine mv_icmp_ne_f (tgt := 31) d_Reader_rule_18 (by decide) (by decide) ?_
      refine mv_iload_n d_Reader_rule_21 rfl rfl ?_
      refine mv_if_ne_f (tgt := 31) d_Reader_rule_22 (by decide) (by decide) ?_
      refine mv_aload_n d_Reader_rule_25 rfl rfl ?_
      refine mv_iconst (v := 1) d_Reader_rule_26 (by decide) ?_
      obtain ⟨_, b45, -⟩ := I0.1 _ _ h_o0
      refine mv_callV (kc1 := 0) (ks1 := 0) (kc' := 0) (ks' := 0) (As := [.int 1]) (st9 := [.int 1, .ref o0]) d_Reader_rule_27 lV_Reader_56 b45 rfl (mj_enter (by decide) (Nat.le_of_ble_eq_true rfl) ?_) rfl (Nat.le_of_ble_eq_true rfl) (Nat.le_of_ble_eq_true rfl) (Nat.le_of_ble_eq_true rfl) (hst := rfl) (fun _ _ _ h => h)
      refine mv_aload_n d_Reader_refuse_0 rfl rfl ?_
      refine mv_iload_n d_Reader_refuse_1 rfl rfl ?_
      refine tr_putKM tm_okF I0 h_o0 (k := 1) rfl ⟨_, rfl⟩ (Or.inl (by decide)) d_Reader_refuse_2 p_Reader_70_9 rfl rfl (fun M46 I47 q48 K49 K49M => ?_)
      have K50 : ∀ R : Nat, T0 R = some (1, 1224, 6) → R ≠ R1 → M46 R = M0 R := fun R h hx => (K49M _ (tm_dif (I0.up h) h_o0 rfl)).trans (U0 R h hx)
      have K51 : ∀ j : Nat, j < 6 → ra M46 o1 3 j = va0 j := fun j hj => (ra_u yr (K49 _ 1 3 _ rfl yr) (K49M _ (tm_dif t_R1 h_o0 rfl)) j).trans (yV j hj)
      refine mv_aload_n d_Reader_refuse_5 rfl rfl ?_
      refine mv_aload_n d_Reader_refuse_6 rfl rfl ?_
      refine tr_getK (k := 11) (K49 _ 9 11 _ rfl q12) d_Reader_refuse_7 f_Reader_175_9 ?_
      refine tr_putKM tm_okF I47 h_o0 (k := 2) rfl ⟨_, rfl⟩ (Or.inl (by decide)) d_Reader_refuse_10 p_Reader_11_9 rfl rfl (fun M52 I53 q54 K55 K55M => ?_)
      have K56 : ∀ R : Nat, T0 R = some (1, 1224, 6) → R ≠ R1 → M52 R = M0 R := fun R h hx => (K55M _ (tm_dif (I47.up h) h_o0 rfl)).trans (K50 R h hx)
      have K57 : ∀ j : Nat, j < 6 → ra M52 o1 3 j = va0 j := fun j hj => (ra_u (K49 _ 1 3 _ rfl yr) (K55 _ 1 3 _ rfl (K49 _ 1 3 _ rfl yr)) (K55M _ (tm_dif t_R1 h_o0 rfl)) j).trans (K51 j hj)
      refine mv_iconst (v := 0) d_Reader_refuse_13 (by decide) ?_
      obtain ⟨s58, e59⟩ : ∃ s9 : p_S, p_fl pb pn 1 ps = s9 := ⟨_, rfl⟩
      have h60 := q_fl e59 (by omega) (by decide)
      have h61 : (1 : Int32).toInt = s58.1 := (by have e9 : (1 : Int32).toInt = 1 := (by decide); omega)
      have h62 : Im (s58.1 ≠ 0 → v5.toInt = (s58.2.1 : Int)) := Im.i (fun _ => by have := (Im.o h17) (by omega); omega)
      have h63 : Im (s58.1 = 0 → v3.toInt = (s58.2.2 : Int) ∧ v4.toInt = p_ki pb pn s58.2.2 ∧ v5.toInt = (p_st pb pn s58.2.2 : Int) ∧ v6.toInt = (p_sp pb pn s58.2.2 : Int) ∧ v7.toInt = p_va pb pn s58.2.2 ∧ v5.toInt = -1) := Im.i (fun z9 => absurd z9 h60.2.2)
      refine mv_iret d_Reader_refuse_14 rfl (by decide) ?_
      exact mv_iret d_Reader_rule_30 rfl (by decide) ⟨_, I53, _, rfl, by decide, by decide, fun h => absurd h (by decide), (by have := (Im.o h17) (by omega); have := yC.d ps.2.2; have := yC.kn ps.2.2; have hb : s58.1 ≠ 0 := (by omega); have z1 : ∀ c, p_sg pb pn c s58 = s58 := (fun c => p_sg_Z s58 hb); have z2 : ∀ c, p_wd pb pn c s58 = s58 := (fun c => p_wd_Z s58 hb); have z3 : ∀ op, p_sum pb pn pa op s58 = s58 := (fun op => p_sum_Z s58 hb); have z4 : ∀ r oc, p_con pb pn pa r oc s58 = s58 := (fun r oc => p_con_Z s58 hb); have z5 : p_prt pb pn s58 = s58 := p_prt_Z s58 hb; have eT : p_rul pb pn pa pc9 ps = s58 := (by unfold p_rul; (try simp only [e59, z1, z2, z3, z4, z5]); ((repeat' (first | (with_reducible rfl) | split)) <;> (first | ((try simp only [e59, z1, z2, z3, z4, z5]); done) | (exfalso; omega)))); rw [eT]; exact ⟨⟨_, _, _, _, _, _, _, (K55 _ 9 1 _ rfl q48), q54, (K55 _ 9 9 _ rfl (K49 _ 9 9 _ rfl q10)), (K55 _ 9 10 _ rfl (K49 _ 9 10 _ rfl q11)), (K55 _ 9 11 _ rfl (K49 _ 9 11 _ rfl q12)), (K55 _ 9 12 _ rfl (K49 _ 9 12 _ rfl q13)), (K55 _ 9 13 _ rfl (K49 _ 9 13 _ rfl q14)), h61, Im.o h62, Im.o h63⟩, (Or.inr ⟨by first | decide | omega, by omega⟩), ⟨_, (K55 _ 1 1 _ rfl (K49 _ 1 1 _ rfl yc)), fun h => absurd h (by decide)⟩, (fun h9 => absurd h9 (by decide)), K56⟩)⟩
    · refine mv_aload_n d_Reader_valueAmong_16 rfl rfl ?_
      refine tr_getK (k := 13) q14 d_Reader_valueAmong_17 f_Reader_241_9 ?_
      refine mv_iload_n d_Reader_valueAmong_20 rfl rfl ?_
      refine mv_iload_n d_Reader_valueAmong_21 rfl rfl ?_
      refine mv_iaddv (v := 19) d_Reader_valueAmong_22 (by decide) ?_
      have := mz_hi v7
      refine mv_icmp_geZ (tgt := 35) (a := v7.toInt) (b := 19) d_Reader_valueAmong_23 (by decide) rfl (by decide) (fun b64 => ?_) (fun b64 => ?_)
      · refine mv_iconst (v := (-1)) d_Reader_valueAmong_35 (by decide) ?_
        refine mv_iret d_Reader_valueAmong_36 rfl (by first | rfl | decide) ?_
        refine mv_istore_n (lv' := [(2, .int (-1)), (0, .ref o0), (1, .ref o1)]) d_Reader_rule_8 rfl (by decide) rfl ?_
        refine mv_aload_n d_Reader_rule_9 rfl rfl ?_
        refine mv_bipush (v := 23) d_Reader_rule_10 (by decide) ?_
        obtain ⟨_, b65, -⟩ := I0.1 _ _ h_o0
        refine mv_callV (kc1 := 0) (ks1 := 0) (kc' := 3) (ks' := 451) (As := [.int 23]) (st9 := [.int 23, .ref o0]) d_Reader_rule_12 lV_Reader_52 b65 rfl (mj_enter (by decide) (Nat.le_of_ble_eq_true rfl) ?_) rfl (Nat.le_of_ble_eq_true rfl) (Nat.le_of_ble_eq_true rfl) (Nat.le_of_ble_eq_true rfl) (hst := rfl) (fun _ _ _ h => h)
        refine mv_aload_n d_Reader_isWord_0 rfl rfl ?_
        refine tr_getK (k := 10) q11 d_Reader_isWord_1 f_Reader_41_9 ?_
        refine mv_iconst (v := 1) d_Reader_isWord_4 (by decide) ?_
        have := mz_hi v4
        refine mv_icmp_neZ (tgt := 20) (a := v4.toInt) (b := 1) d_Reader_isWord_5 (by decide) rfl (by decide) (fun b66 => absurd b66 (by omega)) (fun b66 => ?_)
        refine mv_aload_n d_Reader_isWord_8 rfl rfl ?_
        refine tr_getK (k := 13) q14 d_Reader_isWord_9 f_Reader_241_9 ?_
        refine mv_iload_n d_Reader_isWord_12 rfl rfl ?_
        have := mz_hi v7
        refine mv_icmp_neZ (tgt := 20) (a := v7.toInt) (b := 23) d_Reader_isWord_13 (by decide) rfl (by decide) (fun b67 => ?_) (fun b67 => ?_)
        · refine mv_iconst (v := 0) d_Reader_isWord_20 (by decide) ?_
          refine mv_iret d_Reader_isWord_21 rfl (by decide) ?_
          refine mv_istore_n (lv' := [(3, .int 0), (2, .int (-1)), (0, .ref o0), (1, .ref o1)]) d_Reader_rule_15 rfl (by decide) rfl ?_
          refine mv_iload_n d_Reader_rule_16 rfl rfl ?_
          refine mv_iconst (v := (-1)) d_Reader_rule_17 (by decide) ?_
          refine mv_icmp_ne_f (tgt := 31) d_Reader_rule_18 (by decide) (by decide) ?_
          refine mv_iload_n d_Reader_rule_21 rfl rfl ?_
          refine mv_if_ne_f (tgt := 31) d_Reader_rule_22 (by decide) (by decide) ?_
          refine mv_aload_n d_Reader_rule_25 rfl rfl ?_
          refine mv_iconst (v := 1) d_Reader_rule_26 (by decide) ?_
          obtain ⟨_, b68, -⟩ := I0.1 _ _ h_o0
          refine mv_callV (kc1 := 0) (ks1 := 0) (kc' := 0) (ks' := 0) (As := [.int 1]) (st9 := [.int 1, .ref o0]) d_Reader_rule_27 lV_Reader_56 b68 rfl (mj_enter (by decide) (Nat.le_of_ble_eq_true rfl) ?_) rfl (Nat.le_of_ble_eq_true rfl) (Nat.le_of_ble_eq_true rfl) (Nat.le_of_ble_eq_true rfl) (hst := rfl) (fun _ _ _ h => h)
          refine mv_aload_n d_Reader_refuse_0 rfl rfl ?_
          refine mv_iload_n d_Reader_refuse_1 rfl rfl ?_
          refine tr_putKM tm_okF I0 h_o0 (k := 1) rfl ⟨_, rfl⟩ (Or.inl (by decide)) d_Reader_refuse_2 p_Reader_70_9 rfl rfl (fun M69 I70 q71 K72 K72M => ?_)
          have K73 : ∀ R : Nat, T0 R = some (1, 1224, 6) → R ≠ R1 → M69 R = M0 R := fun R h hx => (K72M _ (tm_dif (I0.up h) h_o0 rfl)).trans (U0 R h hx)
          have K74 : ∀ j : Nat, j < 6 → ra M69 o1 3 j = va0 j := fun j hj => (ra_u yr (K72 _ 1 3 _ rfl yr) (K72M _ (tm_dif t_R1 h_o0 rfl)) j).trans (yV j hj)
          refine mv_aload_n d_Reader_refuse_5 rfl rfl ?_
          refine mv_aload_n d_Reader_refuse_6 rfl rfl ?_
          refine tr_getK (k := 11) (K72 _ 9 11 _ rfl q12) d_Reader_refuse_7 f_Reader_175_9 ?_
          refine tr_putKM tm_okF I70 h_o0 (k := 2) rfl ⟨_, rfl⟩ (Or.inl (by decide)) d_Reader_refuse_10 p_Reader_11_9 rfl rfl (fun M75 I76 q77 K78 K78M => ?_)
          have K79 : ∀ R : Nat, T0 R = some (1, 1224, 6) → R ≠ R1 → M75 R = M0 R := fun R h hx => (K78M _ (tm_dif (I70.up h) h_o0 rfl)).trans (K73 R h hx)
          have K80 : ∀ j : Nat, j < 6 → ra M75 o1 3 j = va0 j := fun j hj => (ra_u (K72 _ 1 3 _ rfl yr) (K78 _ 1 3 _ rfl (K72 _ 1 3 _ rfl yr)) (K78M _ (tm_dif t_R1 h_o0 rfl)) j).trans (K74 j hj)
          refine mv_iconst (v := 0) d_Reader_refuse_13 (by decide) ?_
          obtain ⟨s81, e82⟩ : ∃ s9 : p_S, p_fl pb pn 1 ps = s9 := ⟨_, rfl⟩
          have h83 := q_fl e82 (by omega) (by decide)
          have h84 : (1 : Int32).toInt = s81.1 := (by have e9 : (1 : Int32).toInt = 1 := (by decide); omega)
          have h85 : Im (s81.1 ≠ 0 → v5.toInt = (s81.2.1 : Int)) := Im.i (fun _ => by have := (Im.o h17) (by omega); omega)
          have h86 : Im (s81.1 = 0 → v3.toInt = (s81.2.2 : Int) ∧ v4.toInt = p_ki pb pn s81.2.2 ∧ v5.toInt = (p_st pb pn s81.2.2 : Int) ∧ v6.toInt = (p_sp pb pn s81.2.2 : Int) ∧ v7.toInt = p_va pb pn s81.2.2 ∧ v5.toInt = -1) := Im.i (fun z9 => absurd z9 h83.2.2)
          refine mv_iret d_Reader_refuse_14 rfl (by decide) ?_
          exact mv_iret d_Reader_rule_30 rfl (by decide) ⟨_, I76, _, rfl, by decide, by decide, fun h => absurd h (by decide), (by have := (Im.o h17) (by omega); have := yC.d ps.2.2; have := yC.kn ps.2.2; have hb : s81.1 ≠ 0 := (by omega); have z1 : ∀ c, p_sg pb pn c s81 = s81 := (fun c => p_sg_Z s81 hb); have z2 : ∀ c, p_wd pb pn c s81 = s81 := (fun c => p_wd_Z s81 hb); have z3 : ∀ op, p_sum pb pn pa op s81 = s81 := (fun op => p_sum_Z s81 hb); have z4 : ∀ r oc, p_con pb pn pa r oc s81 = s81 := (fun r oc => p_con_Z s81 hb); have z5 : p_prt pb pn s81 = s81 := p_prt_Z s81 hb; have eT : p_rul pb pn pa pc9 ps = s81 := (by unfold p_rul; (try simp only [e82, z1, z2, z3, z4, z5]); ((repeat' (first | (with_reducible rfl) | split)) <;> (first | ((try simp only [e82, z1, z2, z3, z4, z5]); done) | (exfalso; omega)))); rw [eT]; exact ⟨⟨_, _, _, _, _, _, _, (K78 _ 9 1 _ rfl q71), q77, (K78 _ 9 9 _ rfl (K72 _ 9 9 _ rfl q10)), (K78 _ 9 10 _ rfl (K72 _ 9 10 _ rfl q11)), (K78 _ 9 11 _ rfl (K72 _ 9 11 _ rfl q12)), (K78 _ 9 12 _ rfl (K72 _ 9 12 _ rfl q13)), (K78 _ 9 13 _ rfl (K72 _ 9 13 _ rfl q14)), h84, Im.o h85, Im.o h86⟩, (Or.inr ⟨by first | decide | omega, by omega⟩), ⟨_, (K78 _ 1 1 _ rfl (K72 _ 1 1 _ rfl yc)), fun h => absurd h (by decide)⟩, (fun h9 => absurd h9 (by decide)), K79⟩)⟩
        · refine mv_iconst (v := 1) d_Reader_isWord_16 (by decide) ?_
          refine mv_goto (tgt := 21) d_Reader_isWord_17 (by decide) ?_
          refine mv_iret d_Reader_isWord_21 rfl (by decide) ?_
          refine mv_istore_n (lv' := [(3, .int 1), (2, .int (-1)), (0, .ref o0), (1, .ref o1)]) d_Reader_rule_15 rfl (by decide) rfl ?_
          refine mv_iload_n d_Reader_rule_16 rfl rfl ?_
          refine mv_iconst (v := (-1)) d_Reader_rule_17 (by decide) ?_
          refine mv_icmp_ne_f (tgt := 31) d_Reader_rule_18 (by decide) (by decide) ?_
          refine mv_iload_n d_Reader_rule_21 rfl rfl ?_
          refine mv_if_ne_t (tgt := 31) d_Reader_rule_22 (by decide) (by decide) ?_
          refine mv_aload_n d_Reader_rule_31 rfl rfl ?_
          refine tr_getK (k := 1) yc d_Reader_rule_32 f_Reader_89_1 ?_
          refine mv_bipush (v := 20) d_Reader_rule_35 (by decide) ?_
          have := mz_hi cv
          refine mv_icmp_ltZ (tgt := 46) (a := cv.toInt) (b := 20) d_Reader_rule_37 (by decide) rfl (by decide) (fun b87 => ?_) (fun b87 => ?_)
          · refine mv_aload_n d_Reader_rule_46 rfl rfl ?_
            refine mv_dup d_Reader_rule_47 rfl ?_
            refine tr_getK (k := 1) yc d_Reader_rule_48 f_Reader_89_1 ?_
            refine mv_iconst (v := 1) d_Reader_rule_51 (by decide) ?_
            refine mv_iadd d_Reader_rule_52 ?_
            refine tr_putKM tm_okF I0 h_o1 (k := 1) rfl ⟨_, rfl⟩ (Or.inl (by decide)) d_Reader_rule_53 p_Reader_89_1 rfl rfl (fun M88 I89 q90 K91 K91M => ?_)
            have K92 : ∀ R : Nat, T0 R = some (1, 1224, 6) → R ≠ R1 → M88 R = M0 R := fun R h hx => (K91M _ (tm_dif (I0.up h) h_o1 rfl)).trans (U0 R h hx)
            have K93 : ∀ j : Nat, j < 6 → ra M88 o1 3 j = va0 j := fun j hj => (ra_u yr (K91 _ 1 3 _ rfl yr) (K91M _ (tm_dif t_R1 h_o1 rfl)) j).trans (yV j hj)
            refine mv_aload_n d_Reader_rule_56 rfl rfl ?_
            obtain ⟨_, b100, -⟩ := I89.1 _ _ h_o0
            refine mv_callV (kc' := 3) (ks' := 451) (As := []) (st9 := [.ref o0]) d_Reader_rule_57 lV_Reader_82 b100 rfl (tc_Reader_advance_x (d := (d + 20)) (x9 := x9) (o0 := o0) h_o0 (hK I89) (qS.a (show qS M88 o0 pb pn ps from ⟨_, _, _, _, _, _, _, (K91 _ 9 1 _ rfl q8), (K91 _ 9 2 _ rfl q9), (K91 _ 9 9 _ rfl q10), (K91 _ 9 10 _ rfl q11), (K91 _ 9 11 _ rfl q12), (K91 _ 9 12 _ rfl q13), (K91 _ 9 13 _ rfl q14), h15, Im.o h16, Im.o h17⟩)) (by have := (Im.o h17) (by omega); have := yC.d ps.2.2; have := yC.kn ps.2.2; show ps.2.2 + 1 ≤ 401; omega) I89.start) rfl (Nat.le_of_ble_eq_true rfl) (Nat.le_of_ble_eq_true rfl) (Nat.le_of_ble_eq_true rfl) (hst := rfl) (fun b94r M95 n96 b94 => ?_)
            obtain ⟨T97, J98, rfl, f101⟩ := b94
            have I99 := I89.call J98 (tm_sub (by decide)) (Or.inl rfl)
            have t102 := J98.up h_o0
            have t103 := J98.up h_o1
            have K104 : ∀ R : Nat, T0 R = some (1, 1224, 6) → R ≠ R1 → M95 R = M0 R := fun R h hx => (tm_keepU J98 (I89.up h) (by decide)).trans (K92 R h hx)
            have K105 : ∀ j : Nat, j < 6 → ra M95 o1 3 j = va0 j := fun j hj => (ra_u (K91 _ 1 3 _ rfl yr) (J98.keep h_o1 (by decide) (K91 _ 1 3 _ rfl yr)) (tm_keepU J98 t_R1 (by decide)) j).trans (K93 j hj)
            have q106 := J98.keep h_o0 (by decide) (K91 _ 9 16 _ rfl hO)
            have q107 := J98.keep h_o0 (by decide) (K91 _ 9 1 _ rfl q8)
            have q108 := J98.keep h_o0 (by decide) (K91 _ 9 2 _ rfl q9)
            have q109 := J98.keep h_o1 (by decide) (K91 _ 1 3 _ rfl yr)
            have t110 := J98.up t_R1
            have q111 := J98.keep h_o1 (by decide) q90
            obtain ⟨s112, e113⟩ : ∃ s9 : p_S, p_nx ps = s9 := ⟨_, rfl⟩
            rw [e113] at f101
            have : s112.1 = 0 := by rw [← e113]; show ps.1 = 0; omega
            obtain ⟨v114, v115, v116, v117, v118, v119, v120, q121, q122, q123, q124, q125, q126, q127, h128, h129, h130⟩ := f101
            replace h129 := Im.i h129
            replace h130 := Im.i h130
            refine mv_iload_n d_Reader_rule_60 rfl rfl ?_
            refine mv_if_eq_f (tgt := 75) d_Reader_rule_61 (by decide) (by decide) ?_
            refine mv_aload_n d_Reader_rule_64 rfl rfl ?_
            refine mv_aload_n d_Reader_rule_65 rfl rfl ?_
            obtain ⟨_, b137, -⟩ := I99.1 _ _ t102
            refine mv_callV (kc' := 0) (ks' := 0) (As := [.ref o1]) (st9 := [.ref o1, .ref o0]) d_Reader_rule_66 lV_Reader_94 b137 rfl (tc_Reader_bar_q4_x (d := d) (x9 := x9) (o0 := o0) (o1 := o1) t102 t103 (p := p) q106 (by omega) (by first | omega | decide) (hK I99) ⟨_, _, _, _, _, _, _, q121, q122, q123, q124, q125, q126, q127, h128, Im.o h129, Im.o h130⟩ (by omega) I99.start) rfl (Nat.le_of_ble_eq_true rfl) (Nat.le_of_ble_eq_true rfl) (Nat.le_of_ble_eq_true rfl) (hst := rfl) (fun b131r M132 n133 b131 => ?_)
            obtain ⟨T134, J135, v138, rfl, b139, b140, o141, f142, f143⟩ := b131
            have I136 := I99.call J135 (tm_sub (by decide)) (Or.inl rfl)
            have t144 := J135.up t102
            have t145 := J135.up t103
            have K146 : ∀ R : Nat, T0 R = some (1, 1224, 6) → R ≠ R1 → M132 R = M0 R := fun R h hx => (tm_keepU J135 (I99.up h) (by decide)).trans (K104 R h hx)
            have K147 : ∀ j : Nat, j < 6 → ra M132 o1 3 j = va0 j := fun j hj => (ra_u q109 (J135.keep t103 (by decide) q109) (tm_keepU J135 t110 (by decide)) j).trans (K105 j hj)
            have q148 := J135.keep t103 (by decide) q109
            have t149 := J135.up t110
            have q150 := J135.keep t103 (by decide) q111
            obtain ⟨s151, e152⟩ : ∃ s9 : p_S, p_bar pb pn pa s112 = s9 := ⟨_, rfl⟩
            rw [e152] at f142 f143
            obtain ⟨v153, v154, v155, v156, v157, v158, v159, q160, q161, q162, q163, q164, q165, q166, h167, h168, h169⟩ := f142
            replace h168 := Im.i h168
            replace h169 := Im.i h169
            have := mz_hi v138
            refine mv_if_eqZ (tgt := 97) (a := v138.toInt) d_Reader_rule_69 (by decide) rfl (fun b170 => ?_) (fun b170 => ?_)
            · refine mv_iconst (v := 0) d_Reader_rule_97 (by decide) ?_
              exact mv_iret d_Reader_rule_98 rfl (by decide) ⟨_, I136, _, rfl, by decide, by decide, fun h => absurd h (by decide), (by have := (Im.o h17) (by omega); have := yC.d ps.2.2; have := yC.kn ps.2.2; have hb : s151.1 ≠ 0 := (by omega); have z1 : ∀ c, p_sg pb pn c s151 = s151 := (fun c => p_sg_Z s151 hb); have z2 : ∀ c, p_wd pb pn c s151 = s151 := (fun c => p_wd_Z s151 hb); have z3 : ∀ op, p_sum pb pn pa op s151 = s151 := (fun op => p_sum_Z s151 hb); have z4 : ∀ r oc, p_con pb pn pa r oc s151 = s151 := (fun r oc => p_con_Z s151 hb); have z5 : p_prt pb pn s151 = s151 := p_prt_Z s151 hb; have eT : p_rul pb pn pa pc9 ps = s151 := (by unfold p_rul; (try simp only [e113, e152, z1, z2, z3, z4, z5]); ((repeat' (first | (with_reducible rfl) | split)) <;> (first | ((try simp only [e113, e152, z1, z2, z3, z4, z5]); done) | (exfalso; omega)))); rw [eT]; exact ⟨⟨_, _, _, _, _, _, _, q160, q161, q162, q163, q164, q165, q166, h167, Im.o h168, Im.o h169⟩, (Or.inr ⟨by first | decide | omega, by omega⟩), ⟨_, q150, fun _ => by have e9 : (cv + 1 : Int32).toInt = cv.toInt + 1 := mz_addn 1 1 (by decide) (by omega) (by omega); omega⟩, (fun h9 => absurd h9 (by decide)), K146⟩)⟩
            · have q171 := o141 (by omega)
              refine mv_goto (tgt := 84) d_Reader_rule_72 (by decide) ?_
              refine mv_aload_n d_Reader_rule_84 rfl rfl ?_
              refine mv_bipush (v := 59) d_Reader_rule_85 (by decide) ?_
              obtain ⟨_, b178, -⟩ := I136.1 _ _ t144
              refine mv_callV (kc' := 0) (ks' := 0) (As := [.int 59]) (st9 := [.int 59, .ref o0]) d_Reader_rule_87 lV_Reader_63 b178 rfl (tc_Reader_sign_x (d := (d + 19)) (x9 := x9) (o0 := o0) (x1 := 59) t144 (hK I136) ⟨_, _, _, _, _, _, _, q160, q161, q162, q163, q164, q165, q166, h167, Im.o h168, Im.o h169⟩ (by omega) (by first | omega | decide) I136.start) rfl (Nat.le_of_ble_eq_true rfl) (Nat.le_of_ble_eq_true rfl) (Nat.le_of_ble_eq_true rfl) (hst := rfl) (fun b172r M173 n174 b172 => ?_)
              obtain ⟨T175, J176, v179, rfl, b180, b181, f182, f183⟩ := b172
              have I177 := I136.call J176 (tm_sub (by decide)) (Or.inl rfl)
              have t184 := J176.up t144
              have t185 := J176.up t145
              have K186 : ∀ R : Nat, T0 R = some (1, 1224, 6) → R ≠ R1 → M173 R = M0 R := fun R h hx => (tm_keepU J176 (I136.up h) (by decide)).trans (K146 R h hx)
              have K187 : ∀ j : Nat, j < 6 → ra M173 o1 3 j = va0 j := fun j hj => (ra_u q148 (J176.keep t145 (by decide) q148) (tm_keepU J176 t149 (by decide)) j).trans (K147 j hj)
              have q188 := J176.keep t145 (by decide) q148
              have t189 := J176.up t149
              have q190 := J176.keep t145 (by decide) q150
              have q191 := J176.keep t144 (by decide) q171
              rw [show (59 : Int32).toInt = 59 from by decide] at f182 f183
              obtain ⟨s192, e193⟩ : ∃ s9 : p_S, p_sg pb pn 59 s151 = s9 := ⟨_, rfl⟩
              rw [e193] at f182 f183
              obtain ⟨v194, v195, v196, v197, v198, v199, v200, q201, q202, q203, q204, q205, q206, q207, h208, h209, h210⟩ := f182
              replace h209 := Im.i h209
              replace h210 := Im.i h210
              have := mz_hi v179
              refine mv_if_eqZ (tgt := 97) (a := v179.toInt) d_Reader_rule_90 (by decide) rfl (fun b211 => ?_) (fun b211 => ?_)
              · refine mv_iconst (v := 0) d_Reader_rule_97 (by decide) ?_
                exact mv_iret d_Reader_rule_98 rfl (by decide) ⟨_, I177, _, rfl, by decide, by decide, fun h => absurd h (by decide), (by have := (Im.o h17) (by omega); have := yC.d ps.2.2; have := yC.kn ps.2.2; have hb : s192.1 ≠ 0 := (by omega); have z1 : ∀ c, p_sg pb pn c s192 = s192 := (fun c => p_sg_Z s192 hb); have z2 : ∀ c, p_wd pb pn c s192 = s192 := (fun c => p_wd_Z s192 hb); have z3 : ∀ op, p_sum pb pn pa op s192 = s192 := (fun op => p_sum_Z s192 hb); have z4 : ∀ r oc, p_con pb pn pa r oc s192 = s192 := (fun r oc => p_con_Z s192 hb); have z5 : p_prt pb pn s192 = s192 := p_prt_Z s192 hb; have eT : p_rul pb pn pa pc9 ps = s192 := (by unfold p_rul; (try simp only [e113, e152, e193, z1, z2, z3, z4, z5]); ((repeat' (first | (with_reducible rfl) | split)) <;> (first | ((try simp only [e113, e152, e193, z1, z2, z3, z4, z5]); done) | (exfalso; omega)))); rw [eT]; exact ⟨⟨_, _, _, _, _, _, _, q201, q202, q203, q204, q205, q206, q207, h208, Im.o h209, Im.o h210⟩, (Or.inr ⟨by first | decide | omega, by omega⟩), ⟨_, q190, fun _ => by have e9 : (cv + 1 : Int32).toInt = cv.toInt + 1 := mz_addn 1 1 (by decide) (by omega) (by omega); omega⟩, (fun h9 => absurd h9 (by decide)), K186⟩)⟩
              · refine mv_iconst (v := 1) d_Reader_rule_93 (by decide) ?_
                refine mv_goto (tgt := 98) d_Reader_rule_94 (by decide) ?_
                exact mv_iret d_Reader_rule_98 rfl (by decide) ⟨_, I177, _, rfl, by decide, by decide, fun _ => q191, (by have := (Im.o h17) (by omega); have := yC.d ps.2.2; have := yC.kn ps.2.2; have eT : p_rul pb pn pa pc9 ps = s192 := (by unfold p_rul; (try simp only [e113, e152, e193]); ((repeat' (first | (with_reducible rfl) | split)) <;> (first | ((try simp only [e113, e152, e193]); done) | (exfalso; omega)))); rw [eT]; exact ⟨⟨_, _, _, _, _, _, _, q201, q202, q203, q204, q205, q206, q207, h208, Im.o h209, Im.o h210⟩, (Or.inl ⟨by first | decide | omega, by omega⟩), ⟨_, q190, fun _ => by have e9 : (cv + 1 : Int32).toInt = cv.toInt + 1 := mz_addn 1 1 (by decide) (by omega) (by omega); omega⟩, (fun _ j hj => (K187 j hj).trans (p_V_b (by have := (Im.o h17) (by omega); have := yC.d ps.2.2; have := yC.kn ps.2.2; omega) hj)), K186⟩)⟩
          · refine mv_aload_n d_Reader_rule_40 rfl rfl ?_
            refine mv_iconst (v := 4) d_Reader_rule_41 (by decide) ?_
            obtain ⟨_, b212, -⟩ := I0.1 _ _ h_o0
            refine mv_callV (kc1 := 0) (ks1 := 0) (kc' := 0) (ks' := 0) (As := [.int 4]) (st9 := [.int 4, .ref o0]) d_Reader_rule_42 lV_Reader_56 b212 rfl (mj_enter (by decide) (Nat.le_of_ble_eq_true rfl) ?_) rfl (Nat.le_of_ble_eq_true rfl) (Nat.le_of_ble_eq_true rfl) (Nat.le_of_ble_eq_true rfl) (hst := rfl) (fun _ _ _ h => h)
            refine mv_aload_n d_Reader_refuse_0 rfl rfl ?_
            refine mv_iload_n d_Reader_refuse_1 rfl rfl ?_
            refine tr_putKM tm_okF I0 h_o0 (k := 1) rfl ⟨_, rfl⟩ (Or.inl (by decide)) d_Reader_refuse_2 p_Reader_70_9 rfl rfl (fun M213 I214 q215 K216 K216M => ?_)
            have K217 : ∀ R : Nat, T0 R = some (1, 1224, 6) → R ≠ R1 → M213 R = M0 R := fun R h hx => (K216M _ (tm_dif (I0.up h) h_o0 rfl)).trans (U0 R h hx)
            have K218 : ∀ j : Nat, j < 6 → ra M213 o1 3 j = va0 j := fun j hj => (ra_u yr (K216 _ 1 3 _ rfl yr) (K216M _ (tm_dif t_R1 h_o0 rfl)) j).trans (yV j hj)
            refine mv_aload_n d_Reader_refuse_5 rfl rfl ?_
            refine mv_aload_n d_Reader_refuse_6 rfl rfl ?_
            refine tr_getK (k := 11) (K216 _ 9 11 _ rfl q12) d_Reader_refuse_7 f_Reader_175_9 ?_
            refine tr_putKM tm_okF I214 h_o0 (k := 2) rfl ⟨_, rfl⟩ (Or.inl (by decide)) d_Reader_refuse_10 p_Reader_11_9 rfl rfl (fun M219 I220 q221 K222 K222M => ?_)
            have K223 : ∀ R : Nat, T0 R = some (1, 1224, 6) → R ≠ R1 → M219 R = M0 R := fun R h hx => (K222M _ (tm_dif (I214.up h) h_o0 rfl)).trans (K217 R h hx)
            have K224 : ∀ j : Nat, j < 6 → ra M219 o1 3 j = va0 j := fun j hj => (ra_u (K216 _ 1 3 _ rfl yr) (K222 _ 1 3 _ rfl (K216 _ 1 3 _ rfl yr)) (K222M _ (tm_dif t_R1 h_o0 rfl)) j).trans (K218 j hj)
            refine mv_iconst (v := 0) d_Reader_refuse_13 (by decide) ?_
            obtain ⟨s225, e226⟩ : ∃ s9 : p_S, p_fl pb pn 4 ps = s9 := ⟨_, rfl⟩
            have h227 := q_fl e226 (by omega) (by decide)
            have h228 : (4 : Int32).toInt = s225.1 := (by have e9 : (4 : Int32).toInt = 4 := (by decide); omega)
            have h229 : Im (s225.1 ≠ 0 → v5.toInt = (s225.2.1 : Int)) := Im.i (fun _ => by have := (Im.o h17) (by omega); omega)
            have h230 : Im (s225.1 = 0 → v3.toInt = (s225.2.2 : Int) ∧ v4.toInt = p_ki pb pn s225.2.2 ∧ v5.toInt = (p_st pb pn s225.2.2 : Int) ∧ v6.toInt = (p_sp pb pn s225.2.2 : Int) ∧ v7.toInt = p_va pb pn s225.2.2 ∧ v5.toInt = -1) := Im.i (fun z9 => absurd z9 h227.2.2)
            refine mv_iret d_Reader_refuse_14 rfl (by decide) ?_
            exact mv_iret d_Reader_rule_45 rfl (by decide) ⟨_, I220, _, rfl, by decide, by decide, fun h => absurd h (by decide), (by have := (Im.o h17) (by omega); have := yC.d ps.2.2; have := yC.kn ps.2.2; have hb : s225.1 ≠ 0 := (by omega); have z1 : ∀ c, p_sg pb pn c s225 = s225 := (fun c => p_sg_Z s225 hb); have z2 : ∀ c, p_wd pb pn c s225 = s225 := (fun c => p_wd_Z s225 hb); have z3 : ∀ op, p_sum pb pn pa op s225 = s225 := (fun op => p_sum_Z s225 hb); have z4 : ∀ r oc, p_con pb pn pa r oc s225 = s225 := (fun r oc => p_con_Z s225 hb); have z5 : p_prt pb pn s225 = s225 := p_prt_Z s225 hb; have eT : p_rul pb pn pa pc9 ps = s225 := (by unfold p_rul; (try simp only [e226, z1, z2, z3, z4, z5]); ((repeat' (first | (with_reducible rfl) | split)) <;> (first | ((try simp only [e226, z1, z2, z3, z4, z5]); done) | (exfalso; omega)))); rw [eT]; exact ⟨⟨_, _, _, _, _, _, _, (K222 _ 9 1 _ rfl q215), q221, (K222 _ 9 9 _ rfl (K216 _ 9 9 _ rfl q10)), (K222 _ 9 10 _ rfl (K216 _ 9 10 _ rfl q11)), (K222 _ 9 11 _ rfl (K216 _ 9 11 _ rfl q12)), (K222 _ 9 12 _ rfl (K216 _ 9 12 _ rfl q13)), (K222 _ 9 13 _ rfl (K216 _ 9 13 _ rfl q14)), h228, Im.o h229, Im.o h230⟩, (Or.inr ⟨by first | decide | omega, by omega⟩), ⟨_, (K222 _ 1 1 _ rfl (K216 _ 1 1 _ rfl yc)), fun h => absurd h (by decide)⟩, (fun h9 => absurd h9 (by decide)), K223⟩)⟩
      · refine mv_aload_n d_Reader_valueAmong_26 rfl rfl ?_
        refine tr_getK (k := 13) q14 d_Reader_valueAmong_27 f_Reader_241_9 ?_
        refine mv_iload_n d_Reader_valueAmong_30 rfl rfl ?_
        refine mv_isub d_Reader_valueAmong_31 ?_
        refine mv_goto (tgt := 36) d_Reader_valueAmong_32 (by decide) ?_
        refine mv_iret d_Reader_valueAmong_36 rfl (by first | rfl | decide) ?_
        refine mv_istore_n (lv' := [(2, .int (v7 - 13)), (0, .ref o0), (1, .ref o1)]) d_Reader_rule_8 rfl (by decide) rfl ?_
        refine mv_aload_n d_Reader_rule_9 rfl rfl ?_
        refine mv_bipush (v := 23) d_Reader_rule_10 (by decide) ?_
        obtain ⟨_, b231, -⟩ := I0.1 _ _ h_o0
        refine mv_callV (kc1 := 0) (ks1 := 0) (kc' := 0) (ks' := 0) (As := [.int 23]) (st9 := [.int 23, .ref o0]) d_Reader_rule_12 lV_Reader_52 b231 rfl (mj_enter (by decide) (Nat.le_of_ble_eq_true rfl) ?_) rfl (Nat.le_of_ble_eq_true rfl) (Nat.le_of_ble_eq_true rfl) (Nat.le_of_ble_eq_true rfl) (hst := rfl) (fun _ _ _ h => h)
        refine mv_aload_n d_Reader_isWord_0 rfl rfl ?_
        refine tr_getK (k := 10) q11 d_Reader_isWord_1 f_Reader_41_9 ?_
        refine mv_iconst (v := 1) d_Reader_isWord_4 (by decide) ?_
        have := mz_hi v4
        refine mv_icmp_neZ (tgt := 20) (a := v4.toInt) (b := 1) d_Reader_isWord_5 (by decide) rfl (by decide) (fun b232 => absurd b232 (by omega)) (fun b232 => ?_)
        refine mv_aload_n d_Reader_isWord_8 rfl rfl ?_
        refine tr_getK (k := 13) q14 d_Reader_isWord_9 f_Reader_241_9 ?_
        refine mv_iload_n d_Reader_isWord_12 rfl rfl ?_
        have := mz_hi v7
        refine mv_icmp_neZ (tgt := 20) (a := v7.toInt) (b := 23) d_Reader_isWord_13 (by decide) rfl (by decide) (fun b233 => ?_) (fun b233 => absurd b233 (by omega))
        refine mv_iconst (v := 0) d_Reader_isWord_20 (by decide) ?_
        refine mv_iret d_Reader_isWord_21 rfl (by decide) ?_
        refine mv_istore_n (lv' := [(3, .int 0), (2, .int (v7 - 13)), (0, .ref o0), (1, .ref o1)]) d_Reader_rule_15 rfl (by decide) rfl ?_
        refine mv_iload_n d_Reader_rule_16 rfl rfl ?_
        refine mv_iconst (v := (-1)) d_Reader_rule_17 (by decide) ?_
        have : ((v7 - 13) : Int32).toInt = v7.toInt - 13 := mz_sub2 rfl (by decide) (by omega) (by omega)
        have := mz_hi (v7 - 13)
        refine mv_icmp_neZ (tgt := 31) (a := (v7 - 13).toInt) (b := (-1)) d_Reader_rule_18 (by decide) rfl (by decide) (fun b234 => ?_) (fun b234 => ?_)
        · refine mv_aload_n d_Reader_rule_31 rfl rfl ?_
          refine tr_getK (k := 1) yc d_Reader_rule_32 f_Reader_89_1 ?_
          refine mv_bipush (v := 20) d_Reader_rule_35 (by decide) ?_
          have := mz_hi cv
          refine mv_icmp_ltZ (tgt := 46) (a := cv.toInt) (b := 20) d_Reader_rule_37 (by decide) rfl (by decide) (fun b235 => ?_) (fun b235 => ?_)
          · refine mv_aload_n d_Reader_rule_46 rfl rfl ?_
            refine mv_dup d_Reader_rule_47 rfl ?_
            refine tr_getK (k := 1) yc d_Reader_rule_48 f_Reader_89_1 ?_
            refine mv_iconst (v := 1) d_Reader_rule_51 (by decide) ?_
            refine mv_iadd d_Reader_rule_52 ?_
            refine tr_putKM tm_okF I0 h_o1 (k := 1) rfl ⟨_, rfl⟩ (Or.inl (by decide)) d_Reader_rule_53 p_Reader_89_1 rfl rfl (fun M236 I237 q238 K239 K239M => ?_)
            have K240 : ∀ R : Nat, T0 R = some (1, 1224, 6) → R ≠ R1 → M236 R = M0 R := fun R h hx => (K239M _ (tm_dif (I0.up h) h_o1 rfl)).trans (U0 R h hx)
            have K241 : ∀ j : Nat, j < 6 → ra M236 o1 3 j = va0 j := fun j hj => (ra_u yr (K239 _ 1 3 _ rfl yr) (K239M _ (tm_dif t_R1 h_o1 rfl)) j).trans (yV j hj)
            refine mv_aload_n d_Reader_rule_56 rfl rfl ?_
            obtain ⟨_, b248, -⟩ := I237.1 _ _ h_o0
            refine mv_callV (kc' := 0) (ks' := 0) (As := []) (st9 := [.ref o0]) d_Reader_rule_57 lV_Reader_82 b248 rfl (tc_Reader_advance_x (d := (d + 20)) (x9 := x9) (o0 := o0) h_o0 (hK I237) (qS.a (show qS M236 o0 pb pn ps from ⟨_, _, _, _, _, _, _, (K239 _ 9 1 _ rfl q8), (K239 _ 9 2 _ rfl q9), (K239 _ 9 9 _ rfl q10), (K239 _ 9 10 _ rfl q11), (K239 _ 9 11 _ rfl q12), (K239 _ 9 12 _ rfl q13), (K239 _ 9 13 _ rfl q14), h15, Im.o h16, Im.o h17⟩)) (by have := (Im.o h17) (by omega); have := yC.d ps.2.2; have := yC.kn ps.2.2; show ps.2.2 + 1 ≤ 401; omega) I237.start) rfl (Nat.le_of_ble_eq_true rfl) (Nat.le_of_ble_eq_true rfl) (Nat.le_of_ble_eq_true rfl) (hst := rfl) (fun b242r M243 n244 b242 => ?_)
            obtain ⟨T245, J246, rfl, f249⟩ := b242
            have I247 := I237.call J246 (tm_sub (by decide)) (Or.inl rfl)
            have t250 := J246.up h_o0
            have t251 := J246.up h_o1
            have K252 : ∀ R : Nat, T0 R = some (1, 1224, 6) → R ≠ R1 → M243 R = M0 R := fun R h hx => (tm_keepU J246 (I237.up h) (by decide)).trans (K240 R h hx)
            have K253 : ∀ j : Nat, j < 6 → ra M243 o1 3 j = va0 j := fun j hj => (ra_u (K239 _ 1 3 _ rfl yr) (J246.keep h_o1 (by decide) (K239 _ 1 3 _ rfl yr)) (tm_keepU J246 t_R1 (by decide)) j).trans (K241 j hj)
            have q254 := J246.keep h_o0 (by decide) (K239 _ 9 16 _ rfl hO)
            have q255 := J246.keep h_o0 (by decide) (K239 _ 9 1 _ rfl q8)
            have q256 := J246.keep h_o0 (by decide) (K239 _ 9 2 _ rfl q9)
            have q257 := J246.keep h_o1 (by decide) (K239 _ 1 3 _ rfl yr)
            have t258 := J246.up t_R1
            have q259 := J246.keep h_o1 (by decide) q238
            obtain ⟨s260, e261⟩ : ∃ s9 : p_S, p_nx ps = s9 := ⟨_, rfl⟩
            rw [e261] at f249
            have : s260.1 = 0 := by rw [← e261]; show ps.1 = 0; omega
            obtain ⟨v262, v263, v264, v265, v266, v267, v268, q269, q270, q271, q272, q273, q274, q275, h276, h277, h278⟩ := f249
            replace h277 := Im.i h277
            replace h278 := Im.i h278
            refine mv_iload_n d_Reader_rule_60 rfl rfl ?_
            refine mv_if_eq_t (tgt := 75) d_Reader_rule_61 (by decide) (by decide) ?_
            refine mv_aload_n d_Reader_rule_75 rfl rfl ?_
            refine mv_aload_n d_Reader_rule_76 rfl rfl ?_
            refine mv_iload_n d_Reader_rule_77 rfl rfl ?_
            obtain ⟨_, b285, -⟩ := I247.1 _ _ t250
            refine mv_callV (kc' := 0) (ks' := 0) (As := [.ref o1, .int (v7 - 13)]) (st9 := [.int (v7 - 13), .ref o1, .ref o0]) d_Reader_rule_78 lV_Reader_97 b285 rfl (tc_Reader_ruleNumber_a (d := (d + 18)) (x9 := x9) (o0 := o0) (o1 := o1) (x2 := (v7 - 13)) t250 t251 (hK I247) ⟨_, _, _, _, _, _, _, q269, q270, q271, q272, q273, q274, q275, h276, Im.o h277, Im.o h278⟩ (by omega) (by first | omega | decide) t258 q257 I247.start) rfl (Nat.le_of_ble_eq_true rfl) (Nat.le_of_ble_eq_true rfl) (Nat.le_of_ble_eq_true rfl) (hst := rfl) (fun b279r M280 n281 b279 => ?_)
            obtain ⟨T282, J283, v286, rfl, b287, b288, f289, f290, f291, f292⟩ := b279
            have I284 := I247.call J283 (tm_sub (by decide)) (Or.inl rfl)
            have t293 := J283.up t250
            have t294 := J283.up t251
            have K295 : ∀ R : Nat, T0 R = some (1, 1224, 6) → R ≠ R1 → M280 R = M0 R := fun R h hx => (f292 R (I247.up h) hx).trans (K252 R h hx)
            have K296 : v286.toInt = 1 → ∀ j : Nat, j < 6 → ra M280 o1 3 j = (fun j : Nat => if (j : Int) = (v7 - 13).toInt then p_nm pb pn s260.2.2 else va0 j) j := fun h9 j hj => (f291 h9 j hj).trans (by rw [K253 j hj])
            have q297 := J283.keep t250 (by decide) q254
            have q298 := J283.keep t251 (by decide) q257
            have t299 := J283.up t258
            have q300 := J283.keep t251 (by decide) q259
            have : (v7 - 13 : Int32).toInt = v7.toInt - 13 := mz_sub2 rfl (by decide) (by omega) (by omega)
            rw [show (v7 - 13).toInt + 13 = p_wi pb pn ps.2.2 from by have := (Im.o h17) (by omega); have := yC.d ps.2.2; have := yC.kn ps.2.2; omega] at f289 f290
            obtain ⟨s301, e302⟩ : ∃ s9 : p_S, p_num pb pn (p_lo (p_wi pb pn ps.2.2)) (p_hi (p_wi pb pn ps.2.2)) s260 = s9 := ⟨_, rfl⟩
            rw [e302] at f289 f290
            obtain ⟨v303, v304, v305, v306, v307, v308, v309, q310, q311, q312, q313, q314, q315, q316, h317, h318, h319⟩ := f289
            replace h318 := Im.i h318
            replace h319 := Im.i h319
            have := mz_hi v286
            refine mv_if_eqZ (tgt := 97) (a := v286.toInt) d_Reader_rule_81 (by decide) rfl (fun b320 => ?_) (fun b320 => ?_)
            · refine mv_iconst (v := 0) d_Reader_rule_97 (by decide) ?_
              exact mv_iret d_Reader_rule_98 rfl (by decide) ⟨_, I284, _, rfl, by decide, by decide, fun h => absurd h (by decide), (by have := (Im.o h17) (by omega); have := yC.d ps.2.2; have := yC.kn ps.2.2; have hb : s301.1 ≠ 0 := (by omega); have z1 : ∀ c, p_sg pb pn c s301 = s301 := (fun c => p_sg_Z s301 hb); have z2 : ∀ c, p_wd pb pn c s301 = s301 := (fun c => p_wd_Z s301 hb); have z3 : ∀ op, p_sum pb pn pa op s301 = s301 := (fun op => p_sum_Z s301 hb); have z4 : ∀ r oc, p_con pb pn pa r oc s301 = s301 := (fun r oc => p_con_Z s301 hb); have z5 : p_prt pb pn s301 = s301 := p_prt_Z s301 hb; have eT : p_rul pb pn pa pc9 ps = s301 := (by unfold p_rul; (try simp only [e261, e302, z1, z2, z3, z4, z5]); ((repeat' (first | (with_reducible rfl) | split)) <;> (first | ((try simp only [e261, e302, z1, z2, z3, z4, z5]); done) | (exfalso; omega)))); rw [eT]; exact ⟨⟨_, _, _, _, _, _, _, q310, q311, q312, q313, q314, q315, q316, h317, Im.o h318, Im.o h319⟩, (Or.inr ⟨by first | decide | omega, by omega⟩), ⟨_, q300, fun _ => by have e9 : (cv + 1 : Int32).toInt = cv.toInt + 1 := mz_addn 1 1 (by decide) (by omega) (by omega); omega⟩, (fun h9 => absurd h9 (by decide)), K295⟩)⟩
            · refine mv_aload_n d_Reader_rule_84 rfl rfl ?_
              refine mv_bipush (v := 59) d_Reader_rule_85 (by decide) ?_
              obtain ⟨_, b327, -⟩ := I284.1 _ _ t293
              refine mv_callV (kc' := 0) (ks' := 0) (As := [.int 59]) (st9 := [.int 59, .ref o0]) d_Reader_rule_87 lV_Reader_63 b327 rfl (tc_Reader_sign_x (d := (d + 19)) (x9 := x9) (o0 := o0) (x1 := 59) t293 (hK I284) ⟨_, _, _, _, _, _, _, q310, q311, q312, q313, q314, q315, q316, h317, Im.o h318, Im.o h319⟩ (by omega) (by first | omega | decide) I284.start) rfl (Nat.le_of_ble_eq_true rfl) (Nat.le_of_ble_eq_true rfl) (Nat.le_of_ble_eq_true rfl) (hst := rfl) (fun b321r M322 n323 b321 => ?_)
              obtain ⟨T324, J325, v328, rfl, b329, b330, f331, f332⟩ := b321
              have I326 := I284.call J325 (tm_sub (by decide)) (Or.inl rfl)
              have t333 := J325.up t293
              have t334 := J325.up t294
              have K335 : ∀ R : Nat, T0 R = some (1, 1224, 6) → R ≠ R1 → M322 R = M0 R := fun R h hx => (tm_keepU J325 (I284.up h) (by decide)).trans (K295 R h hx)
              have K336 : v286.toInt = 1 → ∀ j : Nat, j < 6 → ra M322 o1 3 j = (fun j : Nat => if (j : Int) = (v7 - 13).toInt then p_nm pb pn s260.2.2 else va0 j) j := fun h9 j hj => (ra_u q298 (J325.keep t294 (by decide) q298) (tm_keepU J325 t299 (by decide)) j).trans (K296 h9 j hj)
              have q337 := J325.keep t293 (by decide) q297
              have q338 := J325.keep t294 (by decide) q298
              have t339 := J325.up t299
              have q340 := J325.keep t294 (by decide) q300
              rw [show (59 : Int32).toInt = 59 from by decide] at f331 f332
              obtain ⟨s341, e342⟩ : ∃ s9 : p_S, p_sg pb pn 59 s301 = s9 := ⟨_, rfl⟩
              rw [e342] at f331 f332
              obtain ⟨v343, v344, v345, v346, v347, v348, v349, q350, q351, q352, q353, q354, q355, q356, h357, h358, h359⟩ := f331
              replace h358 := Im.i h358
              replace h359 := Im.i h359
              have := mz_hi v328
              refine mv_if_eqZ (tgt := 97) (a := v328.toInt) d_Reader_rule_90 (by decide) rfl (fun b360 => ?_) (fun b360 => ?_)
              · refine mv_iconst (v := 0) d_Reader_rule_97 (by decide) ?_
                exact mv_iret d_Reader_rule_98 rfl (by decide) ⟨_, I326, _, rfl, by decide, by decide, fun h => absurd h (by decide), (by have := (Im.o h17) (by omega); have := yC.d ps.2.2; have := yC.kn ps.2.2; have hb : s341.1 ≠ 0 := (by omega); have z1 : ∀ c, p_sg pb pn c s341 = s341 := (fun c => p_sg_Z s341 hb); have z2 : ∀ c, p_wd pb pn c s341 = s341 := (fun c => p_wd_Z s341 hb); have z3 : ∀ op, p_sum pb pn pa op s341 = s341 := (fun op => p_sum_Z s341 hb); have z4 : ∀ r oc, p_con pb pn pa r oc s341 = s341 := (fun r oc => p_con_Z s341 hb); have z5 : p_prt pb pn s341 = s341 := p_prt_Z s341 hb; have eT : p_rul pb pn pa pc9 ps = s341 := (by unfold p_rul; (try simp only [e261, e302, e342, z1, z2, z3, z4, z5]); ((repeat' (first | (with_reducible rfl) | split)) <;> (first | ((try simp only [e261, e302, e342, z1, z2, z3, z4, z5]); done) | (exfalso; omega)))); rw [eT]; exact ⟨⟨_, _, _, _, _, _, _, q350, q351, q352, q353, q354, q355, q356, h357, Im.o h358, Im.o h359⟩, (Or.inr ⟨by first | decide | omega, by omega⟩), ⟨_, q340, fun _ => by have e9 : (cv + 1 : Int32).toInt = cv.toInt + 1 := mz_addn 1 1 (by decide) (by omega) (by omega); omega⟩, (fun h9 => absurd h9 (by decide)), K335⟩)⟩
              · refine mv_iconst (v := 1) d_Reader_rule_93 (by decide) ?_
                refine mv_goto (tgt := 98) d_Reader_rule_94 (by decide) ?_
                exact mv_iret d_Reader_rule_98 rfl (by decide) ⟨_, I326, _, rfl, by decide, by decide, fun _ => q337, (by have := (Im.o h17) (by omega); have := yC.d ps.2.2; have := yC.kn ps.2.2; have eT : p_rul pb pn pa pc9 ps = s341 := (by unfold p_rul; (try simp only [e261, e302, e342]); ((repeat' (first | (with_reducible rfl) | split)) <;> (first | ((try simp only [e261, e302, e342]); done) | (exfalso; omega)))); rw [eT]; exact ⟨⟨_, _, _, _, _, _, _, q350, q351, q352, q353, q354, q355, q356, h357, Im.o h358, Im.o h359⟩, (Or.inl ⟨by first | decide | omega, by omega⟩), ⟨_, q340, fun _ => by have e9 : (cv + 1 : Int32).toInt = cv.toInt + 1 := mz_addn 1 1 (by decide) (by omega) (by omega); omega⟩, (fun _ j hj => (K336 (by omega) j hj).trans (p_V_n e261 (by have := (Im.o h17) (by omega); have := yC.d ps.2.2; have := yC.kn ps.2.2; omega))), K335⟩)⟩
          · refine mv_aload_n d_Reader_rule_40 rfl rfl ?_
            refine mv_iconst (v := 4) d_Reader_rule_41 (by decide) ?_
            obtain ⟨_, b361, -⟩ := I0.1 _ _ h_o0
            refine mv_callV (kc1 := 0) (ks1 := 0) (kc' := 0) (ks' := 0) (As := [.int 4]) (st9 := [.int 4, .ref o0]) d_Reader_rule_42 lV_Reader_56 b361 rfl (mj_enter (by decide) (Nat.le_of_ble_eq_true rfl) ?_) rfl (Nat.le_of_ble_eq_true rfl) (Nat.le_of_ble_eq_true rfl) (Nat.le_of_ble_eq_true rfl) (hst := rfl) (fun _ _ _ h => h)
            refine mv_aload_n d_Reader_refuse_0 rfl rfl ?_
            refine mv_iload_n d_Reader_refuse_1 rfl rfl ?_
            refine tr_putKM tm_okF I0 h_o0 (k := 1) rfl ⟨_, rfl⟩ (Or.inl (by decide)) d_Reader_refuse_2 p_Reader_70_9 rfl rfl (fun M362 I363 q364 K365 K365M => ?_)
            have K366 : ∀ R : Nat, T0 R = some (1, 1224, 6) → R ≠ R1 → M362 R = M0 R := fun R h hx => (K365M _ (tm_dif (I0.up h) h_o0 rfl)).trans (U0 R h hx)
            have K367 : ∀ j : Nat, j < 6 → ra M362 o1 3 j = va0 j := fun j hj => (ra_u yr (K365 _ 1 3 _ rfl yr) (K365M _ (tm_dif t_R1 h_o0 rfl)) j).trans (yV j hj)
            refine mv_aload_n d_Reader_refuse_5 rfl rfl ?_
            refine mv_aload_n d_Reader_refuse_6 rfl rfl ?_
            refine tr_getK (k := 11) (K365 _ 9 11 _ rfl q12) d_Reader_refuse_7 f_Reader_175_9 ?_
            refine tr_putKM tm_okF I363 h_o0 (k := 2) rfl ⟨_, rfl⟩ (Or.inl (by decide)) d_Reader_refuse_10 p_Reader_11_9 rfl rfl (fun M368 I369 q370 K371 K371M => ?_)
            have K372 : ∀ R : Nat, T0 R = some (1, 1224, 6) → R ≠ R1 → M368 R = M0 R := fun R h hx => (K371M _ (tm_dif (I363.up h) h_o0 rfl)).trans (K366 R h hx)
            have K373 : ∀ j : Nat, j < 6 → ra M368 o1 3 j = va0 j := fun j hj => (ra_u (K365 _ 1 3 _ rfl yr) (K371 _ 1 3 _ rfl (K365 _ 1 3 _ rfl yr)) (K371M _ (tm_dif t_R1 h_o0 rfl)) j).trans (K367 j hj)
            refine mv_iconst (v := 0) d_Reader_refuse_13 (by decide) ?_
            obtain ⟨s374, e375⟩ : ∃ s9 : p_S, p_fl pb pn 4 ps = s9 := ⟨_, rfl⟩
            have h376 := q_fl e375 (by omega) (by decide)
            have h377 : (4 : Int32).toInt = s374.1 := (by have e9 : (4 : Int32).toInt = 4 := (by decide); omega)
            have h378 : Im (s374.1 ≠ 0 → v5.toInt = (s374.2.1 : Int)) := Im.i (fun _ => by have := (Im.o h17) (by omega); omega)
            have h379 : Im (s374.1 = 0 → v3.toInt = (s374.2.2 : Int) ∧ v4.toInt = p_ki pb pn s374.2.2 ∧ v5.toInt = (p_st pb pn s374.2.2 : Int) ∧ v6.toInt = (p_sp pb pn s374.2.2 : Int) ∧ v7.toInt = p_va pb pn s374.2.2 ∧ v5.toInt = -1) := Im.i (fun z9 => absurd z9 h376.2.2)
            refine mv_iret d_Reader_refuse_14 rfl (by decide) ?_
            exact mv_iret d_Reader_rule_45 rfl (by decide) ⟨_, I369, _, rfl, by decide, by decide, fun h => absurd h (by decide), (by have := (Im.o h17) (by omega); have := yC.d ps.2.2; have := yC.kn ps.2.2; have hb : s374.1 ≠ 0 := (by omega); have z1 : ∀ c, p_sg pb pn c s374 = s374 := (fun c => p_sg_Z s374 hb); have z2 : ∀ c, p_wd pb pn c s374 = s374 := (fun c => p_wd_Z s374 hb); have z3 : ∀ op, p_sum pb pn pa op s374 = s374 := (fun op => p_sum_Z s374 hb); have z4 : ∀ r oc, p_con pb pn pa r oc s374 = s374 := (fun r oc => p_con_Z s374 hb); have z5 : p_prt pb pn s374 = s374 := p_prt_Z s374 hb; have eT : p_rul pb pn pa pc9 ps = s374 := (by unfold p_rul; (try simp only [e375, z1, z2, z3, z4, z5]); ((repeat' (first | (with_reducible rfl) | split)) <;> (first | ((try simp only [e375, z1, z2, z3, z4, z5]); done) | (exfalso; omega)))); rw [eT]; exact ⟨⟨_, _, _, _, _, _, _, (K371 _ 9 1 _ rfl q364), q370, (K371 _ 9 9 _ rfl (K365 _ 9 9 _ rfl q10)), (K371 _ 9 10 _ rfl (K365 _ 9 10 _ rfl q11)), (K371 _ 9 11 _ rfl (K365 _ 9 11 _ rfl q12)), (K371 _ 9 12 _ rfl (K365 _ 9 12 _ rfl q13)), (K371 _ 9 13 _ rfl (K365 _ 9 13 _ rfl q14)), h377, Im.o h378, Im.o h379⟩, (Or.inr ⟨by first | decide | omega, by omega⟩), ⟨_, (K371 _ 1 1 _ rfl (K365 _ 1 1 _ rfl yc)), fun h => absurd h (by decide)⟩, (fun h9 => absurd h9 (by decide)), K372⟩)⟩
        · refine mv_iload_n d_Reader_rule_21 rfl rfl ?_
          refine mv_if_ne_f (tgt := 31) d_Reader_rule_22 (by decide) (by decide) ?_
          refine mv_aload_n d_Reader_rule_25 rfl rfl ?_
          refine mv_iconst (v := 1) d_Reader_rule_26 (by decide) ?_
          obtain ⟨_, b380, -⟩ := I0.1 _ _ h_o0
          refine mv_callV (kc1 := 0) (ks1 := 0) (kc' := 0) (ks' := 0) (As := [.int 1]) (st9 := [.int 1, .ref o0]) d_Reader_rule_27 lV_Reader_56 b380 rfl (mj_enter (by decide) (Nat.le_of_ble_eq_true rfl) ?_) rfl (Nat.le_of_ble_eq_true rfl) (Nat.le_of_ble_eq_true rfl) (Nat.le_of_ble_eq_true rfl) (hst := rfl) (fun _ _ _ h => h)
          refine mv_aload_n d_Reader_refuse_0 rfl rfl ?_
          refine mv_iload_n d_Reader_refuse_1 rfl rfl ?_
          refine tr_putKM tm_okF I0 h_o0 (k := 1) rfl ⟨_, rfl⟩ (Or.inl (by decide)) d_Reader_refuse_2 p_Reader_70_9 rfl rfl (fun M381 I382 q383 K384 K384M => ?_)
          have K385 : ∀ R : Nat, T0 R = some (1, 1224, 6) → R ≠ R1 → M381 R = M0 R := fun R h hx => (K384M _ (tm_dif (I0.up h) h_o0 rfl)).trans (U0 R h hx)
          have K386 : ∀ j : Nat, j < 6 → ra M381 o1 3 j = va0 j := fun j hj => (ra_u yr (K384 _ 1 3 _ rfl yr) (K384M _ (tm_dif t_R1 h_o0 rfl)) j).trans (yV j hj)
          refine mv_aload_n d_Reader_refuse_5 rfl rfl ?_
          refine mv_aload_n d_Reader_refuse_6 rfl rfl ?_
          refine tr_getK (k := 11) (K384 _ 9 11 _ rfl q12) d_Reader_refuse_7 f_Reader_175_9 ?_
          refine tr_putKM tm_okF I382 h_o0 (k := 2) rfl ⟨_, rfl⟩ (Or.inl (by decide)) d_Reader_refuse_10 p_Reader_11_9 rfl rfl (fun M387 I388 q389 K390 K390M => ?_)
          have K391 : ∀ R : Nat, T0 R = some (1, 1224, 6) → R ≠ R1 → M387 R = M0 R := fun R h hx => (K390M _ (tm_dif (I382.up h) h_o0 rfl)).trans (K385 R h hx)
          have K392 : ∀ j : Nat, j < 6 → ra M387 o1 3 j = va0 j := fun j hj => (ra_u (K384 _ 1 3 _ rfl yr) (K390 _ 1 3 _ rfl (K384 _ 1 3 _ rfl yr)) (K390M _ (tm_dif t_R1 h_o0 rfl)) j).trans (K386 j hj)
          refine mv_iconst (v := 0) d_Reader_refuse_13 (by decide) ?_
          obtain ⟨s393, e394⟩ : ∃ s9 : p_S, p_fl pb pn 1 ps = s9 := ⟨_, rfl⟩
          have h395 := q_fl e394 (by omega) (by decide)
          have h396 : (1 : Int32).toInt = s393.1 := (by have e9 : (1 : Int32).toInt = 1 := (by decide); omega)
          have h397 : Im (s393.1 ≠ 0 → v5.toInt = (s393.2.1 : Int)) := Im.i (fun _ => by have := (Im.o h17) (by omega); omega)
          have h398 : Im (s393.1 = 0 → v3.toInt = (s393.2.2 : Int) ∧ v4.toInt = p_ki pb pn s393.2.2 ∧ v5.toInt = (p_st pb pn s393.2.2 : Int) ∧ v6.toInt = (p_sp pb pn s393.2.2 : Int) ∧ v7.toInt = p_va pb pn s393.2.2 ∧ v5.toInt = -1) := Im.i (fun z9 => absurd z9 h395.2.2)
          refine mv_iret d_Reader_refuse_14 rfl (by decide) ?_
          exact mv_iret d_Reader_rule_30 rfl (by decide) ⟨_, I388, _, rfl, by decide, by decide, fun h => absurd h (by decide), (by have := (Im.o h17) (by omega); have := yC.d ps.2.2; have := yC.kn ps.2.2; have hb : s393.1 ≠ 0 := (by omega); have z1 : ∀ c, p_sg pb pn c s393 = s393 := (fun c => p_sg_Z s393 hb); have z2 : ∀ c, p_wd pb pn c s393 = s393 := (fun c => p_wd_Z s393 hb); have z3 : ∀ op, p_sum pb pn pa op s393 = s393 := (fun op => p_sum_Z s393 hb); have z4 : ∀ r oc, p_con pb pn pa r oc s393 = s393 := (fun r oc => p_con_Z s393 hb); have z5 : p_prt pb pn s393 = s393 := p_prt_Z s393 hb; have eT : p_rul pb pn pa pc9 ps = s393 := (by unfold p_rul; (try simp only [e394, z1, z2, z3, z4, z5]); ((repeat' (first | (with_reducible rfl) | split)) <;> (first | ((try simp only [e394, z1, z2, z3, z4, z5]); done) | (exfalso; omega)))); rw [eT]; exact ⟨⟨_, _, _, _, _, _, _, (K390 _ 9 1 _ rfl q383), q389, (K390 _ 9 9 _ rfl (K384 _ 9 9 _ rfl q10)), (K390 _ 9 10 _ rfl (K384 _ 9 10 _ rfl q11)), (K390 _ 9 11 _ rfl (K384 _ 9 11 _ rfl q12)), (K390 _ 9 12 _ rfl (K384 _ 9 12 _ rfl q13)), (K390 _ 9 13 _ rfl (K384 _ 9 13 _ rfl q14)), h396, Im.o h397, Im.o h398⟩, (Or.inr ⟨by first | decide | omega, by omega⟩), ⟨_, (K390 _ 1 1 _ rfl (K384 _ 1 1 _ rfl yc)), fun h => absurd h (by decide)⟩, (fun h9 => absurd h9 (by decide)), K391⟩)⟩
def w_Reader_readAct_a : List Nat := [101, 153, 154, 901, 902, 908, 909, 910, 911, 912, 913, 914, 915, 916, 918, 954, 955, 956, 957, 967, 5002]
set_option maxHeartbeats 100000000 in theorem tc_Reader_readAct_a {g : mj_G} {l : Launch} {d : Nat} {T0 : tm_H} {M0 : mj_M} {n0 x9 : Nat} {o0 : Nat} {o1 : Nat} (h_o0 : T0 o0 = some (0, 9, 0)) (h_o1 : T0 o1 = some (0, 1, 0)) {pb : Nat → Int} {pn : Nat} {cv : Int32} {R1 : Nat} (yB : qB M0 o0 pb pn) (yc : tm_at M0 o1 1 1 (.int cv)) (yc9 : cv.toInt = 0) (t_R1 : T0 R1 = some (1, 1224, 6)) (yr : tm_at M0 o1 1 3 (.ref R1)) (yV : ∀ j : Nat, j < 6 → ra M0 o1 3 j = p_dv j) (I0 : tm_I tm_FT (tm_in w_Reader_readAct_a) x9 T0 M0 n0 T0 M0 n0) : mj_Met g l kY_Reader_readAct (d + 22) [.ref o0, .ref o1] M0 n0 66 10120 (tm_Q tm_FT (tm_in w_Reader_readAct_a) x9 T0 M0 n0 (fun r _ M => ∃ v : Int32, r = some (.int v) ∧ 0 ≤ v.toInt ∧ v.toInt ≤ 1 ∧ (∃ vf vp rc : Int32, tm_at M o0 9 1 (.int vf) ∧ tm_at M o0 9 2 (.int vp) ∧ tm_at M o1 1 1 (.int rc) ∧ vf.toInt = (p_act pb pn).2.1 ∧ ((p_act pb pn).2.1 = 0 ∧ v.toInt = 1 ∧ rc.toInt = ((p_act pb pn).1 : Int) ∧ vp.toInt = -1 ∨ (p_act pb pn).2.1 ≠ 0 ∧ v.toInt = 0 ∧ vp.toInt = ((p_act pb pn).2.2.1 : Int))) ∧ ((p_act pb pn).2.1 = 0 → ∀ j : Nat, j < 6 → ra M o1 3 j = (p_av pb pn).2 j) ∧ (∀ R : Nat, T0 R = some (1, 1224, 6) → R ≠ R1 → M R = M0 R))) := by
  refine mj_enter (by decide) (Nat.le_of_ble_eq_true rfl) ?_
  have hB : ∀ {T : tm_H} {M : mj_M} {n : Nat}, tm_I tm_FT (tm_in w_Reader_readAct_a) x9 T0 M0 n0 T M n → qB M o0 pb pn := fun I => yB.keep I0.1 I h_o0 (by decide +kernel) (by decide +kernel) (by decide +kernel)
  have := yB.1
  have := yB.2.1
  have U0 : ∀ R : Nat, T0 R = some (1, 1224, 6) → R ≠ R1 → M0 R = M0 R := fun R _ _ => rfl
  refine mv_aload_n d_Reader_readAct_0 rfl rfl ?_
  refine mv_bipush (v := 13) d_Reader_readAct_1 (by decide) ?_
  obtain ⟨_, b7, -⟩ := I0.1 _ _ h_o0
  refine mv_callV (kc' := 66) (ks' := 10120) (As := [.int 13]) (st9 := [.int 13, .ref o0]) d_Reader_readAct_3 lV_Reader_37 b7 rfl (tc_Reader_begin_x (d := (d + 12)) (x9 := x9) (o0 := o0) (x1 := 13) h_o0 (hB I0) (by decide) I0.start) rfl (Nat.le_of_ble_eq_true rfl) (Nat.le_of_ble_eq_true rfl) (Nat.le_of_ble_eq_true rfl) (hst := rfl) (fun b1r M2 n3 b1 => ?_)
  obtain ⟨T4, J5, rfl, f8, f9, f10⟩ := b1
  have I6 := I0.call J5 (tm_sub (by decide)) (Or.inl rfl)
  have t11 := J5.up h_o0
  have t12 := J5.up h_o1
  have K13 : ∀ R : Nat, T0 R = some (1, 1224, 6) → R ≠ R1 → M2 R = M0 R := fun R h hx => (tm_keepU J5 (I0.up h) (by decide)).trans (U0 R h hx)
  have K14 : ∀ j : Nat, j < 6 → ra M2 o1 3 j = p_dv j := fun j hj => (ra_u yr (J5.keep h_o1 (by decide) yr) (tm_keepU J5 t_R1 (by decide)) j).trans (yV j hj)
  have q15 := J5.keep h_o1 (by decide) yc
  have q16 := J5.keep h_o1 (by decide) yr
  have t17 := J5.up t_R1
  rw [show (13 : Int32).toInt = 13 from by decide] at f9
  obtain ⟨s18, e19⟩ : ∃ s9 : p_S, (0, 0, 0) = s9 := ⟨_, rfl⟩
  rw [e19] at f10
  have : s18.1 = 0 := by rw [← e19]
  have : s18.2.2 = 0 := by rw [← e19]
  obtain ⟨v20, v21, v22, v23, v24, v25, v26, q27, q28, q29, q30, q31, q32, q33, h34, h35, h36⟩ := f10
  replace h35 := Im.i h35
  replace h36 := Im.i h36
  have yC := f9
  refine mv_iconst (v := 0) d_Reader_readAct_6 (by decide) ?_
  refine mv_istore_n (lv' := [(2, .int 0), (0, .ref o0), (1, .ref o1)]) d_Reader_readAct_7 rfl (by decide) rfl ?_
  have L8_37 : ∀ (k : Nat) (i2_37 : Int32) (T_37 : tm_H) (M_37 : mj_M) (n_37 : Nat), tm_I tm_FT (tm_in w_Reader_readAct_a) x9 T0 M0 n0 T_37 M_37 n_37 → T_37 o0 = some (0, 9, 0) → T_37 o1 = some (0, 1, 0) → i2_37.toInt ≤ 21 → 0 ≤ i2_37.toInt → tm_at M_37 o0 9 16 (.int 0) → (∀ R : Nat, T0 R = some (1, 1224, 6) → R ≠ R1 → M_37 R = M0 R) → (∃ (c1 : Nat) (s1 : p_S) (cv : Int32) (V1 : Nat → Int), qS M_37 o0 pb pn s1 ∧ qC M_37 o0 pb pn 13 ∧ s1.1 = 0 ∧ tm_at M_37 o1 1 1 (.int cv) ∧ cv.toInt = (c1 : Int) ∧ i2_37.toInt = (c1 : Int) ∧ c1 ≤ 20 ∧ tm_at M_37 o1 1 3 (.ref R1) ∧ (∀ j : Nat, j < 6 → ra M_37 o1 3 j = V1 j) ∧ p_lp pn (p_av1 pb pn 13) ((c1, s1), V1) = p_av pb pn) → 21 - i2_37.toInt < (k : Int) → mj_V g l kY_Reader_readAct (d + 22) 8 [(2, .int i2_37), (0, .ref o0), (1, .ref o1)] [] M_37 n_37 (k * 3) (k * 460) (tm_Q tm_FT (tm_in w_Reader_readAct_a) x9 T0 M0 n0 (fun r _ M => ∃ v : Int32, r = some (.int v) ∧ 0 ≤ v.toInt ∧ v.toInt ≤ 1 ∧ (∃ vf vp rc : Int32, tm_at M o0 9 1 (.int vf) ∧ tm_at M o0 9 2 (.int vp) ∧ tm_at M o1 1 1 (.int rc) ∧ vf.toInt = (p_act pb pn).2.1 ∧ ((p_act pb pn).2.1 = 0 ∧ v.toInt = 1 ∧ rc.toInt = ((p_act pb pn).1 : Int) ∧ vp.toInt = -1 ∨ (p_act pb pn).2.1 ≠ 0 ∧ v.toInt = 0 ∧ vp.toInt = ((p_act pb pn).2.2.1 : Int))) ∧ ((p_act pb pn).2.1 = 0 → ∀ j : Nat, j < 6 → ra M o1 3 j = (p_av pb pn).2 j) ∧ (∀ R : Nat, T0 R = some (1, 1224, 6) → R ≠ R1 → M R = M0 R))) := by
    intro k37
    induction k37 with
    | zero =>
      intro i2_37 T_37 M_37 n_37 I_37 h_q0_37 h_q1_37 iv0_37 iv1_37 kp0_37 kKU_37 kKT9_37 hk37
      have := mz_hi i2_37
      exfalso; omega
    | succ k37 ih37 =>
      intro i2_37 T_37 M_37 n_37 I_37 h_q0_37 h_q1_37 iv0_37 iv1_37 kp0_37 kKU_37 kKT9_37 hk37
      obtain ⟨c38, s39, c40, V49, f41, h42, h43, q44, h45, h46, h47, q50, h51, e48⟩ := kKT9_37
      obtain ⟨v52, v53, v54, v55, v56, v57, v58, q59, q60, q61, q62, q63, q64, q65, h66, h67, h68⟩ := f41
      replace h67 := Im.i h67
      replace h68 := Im.i h68
      have yC := h42
      have t_x69 := I_37.up t_R1
      refine mv_iload_n d_Reader_readAct_8 rfl rfl ?_
      refine mv_bipush (v := 20) d_Reader_readAct_9 (by decide) ?_
      have := mz_hi i2_37
      refine mv_icmp_gtZ (tgt := 37) (a := i2_37.toInt) (b := 20) d_Reader_readAct_11 (by decide) rfl (by decide) (fun b70 => ?_) (fun b70 => ?_)
      · refine mv_iconst (v := 1) d_Reader_readAct_37 (by decide) ?_
        exact mv_iret d_Reader_readAct_38 rfl (by decide) ⟨_, I_37, _, rfl, by decide, by decide, (by have e9_ : (1 : Int32).toInt = 1 := (by decide); have hE : p_av pb pn = ((c38, s39), V49) := (by exact e48.symm.trans (p_lp_stop (p_av1_no (fun h9 => by have h8 : s39.1 = 0 := h9.1; have h7 : p_ki pb pn s39.2.2 ≠ 0 := h9.2; omega)))); have z1 : (p_act pb pn).2.1 = s39.1 := (by rw [← p_av_1, hE]); have z2 : (p_act pb pn).1 = c38 := (by rw [← p_av_1, hE]); have z3 : (p_act pb pn).2.2.1 = s39.2.1 := (by rw [← p_av_1, hE]); have := (Im.o h68) (by omega); exact ⟨_, _, _, q59, q60, q44, by omega, by omega⟩), (fun _ j hj => by have hE : p_av pb pn = ((c38, s39), V49) := (by exact e48.symm.trans (p_lp_stop (p_av1_no (fun h9 => by have h8 : s39.1 = 0 := h9.1; have h7 : p_ki pb pn s39.2.2 ≠ 0 := h9.2; omega)))); rw [hE]; exact h51 j hj), kKU_37⟩
      · refine mv_aload_n d_Reader_readAct_14 rfl rfl ?_
        refine tr_getK (k := 10) q62 d_Reader_readAct_15 f_Reader_41_9 ?_
        have := mz_hi v55
        refine mv_if_eqZ (tgt := 37) (a := v55.toInt) d_Reader_readAct_18 (by decide) rfl (fun b71 => ?_) (fun b71 => ?_)
        · refine mv_iconst (v := 1) d_Reader_readAct_37 (by decide) ?_
          exact mv_iret d_Reader_readAct_38 rfl (by decide) ⟨_, I_37, _, rfl, by decide, by decide, (by have e9_ : (1 : Int32).toInt = 1 := (by decide); have hE : p_av pb pn = ((c38, s39), V49) := (by have := (Im.o h68) (by omega); have := yC.d s39.2.2; have := yC.kn s39.2.2; exact e48.symm.trans (p_lp_stop (p_av1_no (fun h9 => by have h8 : s39.1 = 0 := h9.1; have h7 : p_ki pb pn s39.2.2 ≠ 0 := h9.2; omega)))); have z1 : (p_act pb pn).2.1 = s39.1 := (by rw [← p_av_1, hE]); have z2 : (p_act pb pn).1 = c38 := (by rw [← p_av_1, hE]); have z3 : (p_act pb pn).2.2.1 = s39.2.1 := (by rw [← p_av_1, hE]); have := (Im.o h68) (by omega); exact ⟨_, _, _, q59, q60, q44, by omega, by omega⟩), (fun _ j hj => by have hE : p_av pb pn = ((c38, s39), V49) := (by have := (Im.o h68) (by omega); have := yC.d s39.2.2; have := yC.kn s39.2.2; exact e48.symm.trans (p_lp_stop (p_av1_no (fun h9 => by have h8 : s39.1 = 0 := h9.1; have h7 : p_ki pb pn s39.2.2 ≠ 0 := h9.2; omega)))); rw [hE]; exact h51 j hj), kKU_37⟩
        · refine mv_aload_n d_Reader_readAct_21 rfl rfl ?_
          refine mv_aload_n d_Reader_readAct_22 rfl rfl ?_
          obtain ⟨_, b78, -⟩ := I_37.1 _ _ h_q0_37
          refine mv_callV (kc' := (k37 * 3 + 0)) (ks' := (k37 * 460 + 9)) (As := [.ref o1]) (st9 := [.ref o1, .ref o0]) d_Reader_readAct_23 lV_Reader_44 b78 rfl (tc_Reader_rule_q4_a (d := d) (x9 := x9) (o0 := o0) (o1 := o1) h_q0_37 h_q1_37 (p := 0) kp0_37 (by decide) (by first | omega | decide) h42 ⟨_, _, _, _, _, _, _, q59, q60, q61, q62, q63, q64, q65, h66, Im.o h67, Im.o h68⟩ (by omega) (pc9 := c38) q44 (by omega) t_x69 q50 (va0 := V49) h51 I_37.start) rfl (by first | exact Nat.le_of_ble_eq_true rfl | omega) (by first | exact Nat.le_of_ble_eq_true rfl | omega) (by first | exact Nat.le_of_ble_eq_true rfl | omega) (hst := rfl) (fun b72r M73 n74 b72 => ?_)
          obtain ⟨T75, J76, v79, rfl, b80, b81, o82, f83, f84, f85, f86, f87⟩ := b72
          have I77 := I_37.call J76 (tm_sub (by decide)) (Or.inl rfl)
          have t88 := J76.up h_q0_37
          have t89 := J76.up h_q1_37
          have K90 : ∀ R : Nat, T0 R = some (1, 1224, 6) → R ≠ R1 → M73 R = M0 R := fun R h hx => (f87 R (I_37.up h) hx).trans (kKU_37 R h hx)
          have K91 : v79.toInt = 1 → ∀ j : Nat, j < 6 → ra M73 o1 3 j = (p_V pb pn s39 V49) j := f86
          have q92 := J76.keep h_q1_37 (by decide) q50
          have t93 := J76.up t_x69
          have h94 := h42.keep I_37.1 J76 (I_37.up h_o0) (qW_of (by decide +kernel))
          obtain ⟨s95, e96⟩ : ∃ s9 : p_S, p_rul pb pn 13 c38 s39 = s9 := ⟨_, rfl⟩
          rw [e96] at f83 f84
          obtain ⟨v97, v98, v99, v100, v101, v102, v103, q104, q105, q106, q107, q108, q109, q110, h111, h112, h113⟩ := f83
          replace h112 := Im.i h112
          replace h113 := Im.i h113
          obtain ⟨c114, q115, h116⟩ := f85
          have := mz_hi v79
          refine mv_if_neZ (tgt := 31) (a := v79.toInt) d_Reader_readAct_26 (by decide) rfl (fun b117 => ?_) (fun b117 => ?_)
          · have q118 := o82 (by omega)
            refine mv_iinc (v := (i2_37 + 1)) (lv' := [(2, .int (i2_37 + 1)), (0, .ref o0), (1, .ref o1)]) d_Reader_readAct_31 rfl rfl (by decide) rfl ?_
            refine mv_goto (tgt := 8) d_Reader_readAct_34 (by decide) ?_
            have : (i2_37 + 1 : Int32).toInt = i2_37.toInt + 1 := mz_addn 1 1 (by decide) (by omega) (by omega)
            have hc9 := (p_rul_c (b := pb) (n := pn) (na := 13) (c := c38) (s := s39) (by rw [e96]; omega)).2.1
            have T119 : ∃ (c1 : Nat) (s1 : p_S) (cv : Int32) (V1 : Nat → Int), qS M73 o0 pb pn s1 ∧ qC M73 o0 pb pn 13 ∧ s1.1 = 0 ∧ tm_at M73 o1 1 1 (.int cv) ∧ cv.toInt = (c1 : Int) ∧ (i2_37 + 1).toInt = (c1 : Int) ∧ c1 ≤ 20 ∧ tm_at M73 o1 1 3 (.ref R1) ∧ (∀ j : Nat, j < 6 → ra M73 o1 3 j = V1 j) ∧ p_lp pn (p_av1 pb pn 13) ((c1, s1), V1) = p_av pb pn := ⟨c38 + 1, s95, _, p_V pb pn s39 V49, ⟨_, _, _, _, _, _, _, q104, q105, q106, q107, q108, q109, q110, h111, Im.o h112, Im.o h113⟩, h94, by omega, q115, by omega, by omega, by omega, q92, K91 (by omega), (by have := (Im.o h68) (by omega); have := yC.d s39.2.2; have := yC.kn s39.2.2; have st : p_av1 pb pn 13 ((c38, s39), V49) = ((c38 + 1, s95), p_V pb pn s39 V49) := (by rw [p_av1_on (q := ((c38, s39), V49)) ⟨(by show s39.1 = 0; omega), (by show p_ki pb pn s39.2.2 ≠ 0; omega)⟩, p_ac1_on (q := (c38, s39)) ⟨(by show s39.1 = 0; omega), (by show p_ki pb pn s39.2.2 ≠ 0; omega)⟩]; exact Prod.ext (Prod.ext rfl e96) rfl); rw [← st, p_P.go p_av1_P ((c38, s39), V49)]; exact e48)⟩
            have b120 : (i2_37 + 1).toInt = i2_37.toInt + 1 := mz_addn 1 1 (by decide) (by have := mz_lo i2_37; omega) (by have := mz_hi i2_37; omega)
            exact mv_less (by omega) (by omega) (ih37 (i2_37 + 1) T75 M73 n74 I77 t88 t89 (by first | omega | decide) (by first | omega | decide) q118 K90 T119 (by omega))
          · refine mv_iconst (v := 0) d_Reader_readAct_29 (by decide) ?_
            exact mv_iret d_Reader_readAct_30 rfl (by decide) ⟨_, I77, _, rfl, by decide, by decide, (by have e9_ : (0 : Int32).toInt = 0 := (by decide); have hE : p_av pb pn = (((c38 + 1), s95), p_V pb pn s39 V49) := (by have := (Im.o h68) (by omega); have := yC.d s39.2.2; have := yC.kn s39.2.2; have hb : s95.1 ≠ 0 := (by omega); have st : p_av1 pb pn 13 ((c38, s39), V49) = ((c38 + 1, s95), p_V pb pn s39 V49) := (by rw [p_av1_on (q := ((c38, s39), V49)) ⟨(by show s39.1 = 0; omega), (by show p_ki pb pn s39.2.2 ≠ 0; omega)⟩, p_ac1_on (q := (c38, s39)) ⟨(by show s39.1 = 0; omega), (by show p_ki pb pn s39.2.2 ≠ 0; omega)⟩]; exact Prod.ext (Prod.ext rfl e96) rfl); rw [← e48, ← p_P.go p_av1_P ((c38, s39), V49), st]; exact p_lp_stop (p_av1_no (fun h9 => hb h9.1))); have z1 : (p_act pb pn).2.1 = s95.1 := (by rw [← p_av_1, hE]); have z2 : (p_act pb pn).1 = (c38 + 1) := (by rw [← p_av_1, hE]); have z3 : (p_act pb pn).2.2.1 = s95.2.1 := (by rw [← p_av_1, hE]); have := (Im.o h112) (by omega); exact ⟨_, _, _, q104, q105, q115, by omega, by omega⟩), (fun h9 => absurd h9 (by have hE : p_av pb pn = (((c38 + 1), s95), p_V pb pn s39 V49) := (by have := (Im.o h68) (by omega); have := yC.d s39.2.2; have := yC.kn s39.2.2; have hb : s95.1 ≠ 0 := (by omega); have st : p_av1 pb pn 13 ((c38, s39), V49) = ((c38 + 1, s95), p_V pb pn s39 V49) := (by rw [p_av1_on (q := ((c38, s39), V49)) ⟨(by show s39.1 = 0; omega), (by show p_ki pb pn s39.2.2 ≠ 0; omega)⟩, p_ac1_on (q := (c38, s39)) ⟨(by show s39.1 = 0; omega), (by show p_ki pb pn s39.2.2 ≠ 0; omega)⟩]; exact Prod.ext (Prod.ext rfl e96) rfl); rw [← e48, ← p_P.go p_av1_P ((c38, s39), V49), st]; exact p_lp_stop (p_av1_no (fun h9 => hb h9.1))); rw [← p_av_1, hE]; show ¬ s95.1 = 0; omega)), K90⟩
  have e0 : (0 : Int32).toInt = 0 := by decide
  have T121 : ∃ (c1 : Nat) (s1 : p_S) (cv : Int32) (V1 : Nat → Int), qS M2 o0 pb pn s1 ∧ qC M2 o0 pb pn 13 ∧ s1.1 = 0 ∧ tm_at M2 o1 1 1 (.int cv) ∧ cv.toInt = (c1 : Int) ∧ 0 = (c1 : Int) ∧ c1 ≤ 20 ∧ tm_at M2 o1 1 3 (.ref R1) ∧ (∀ j : Nat, j < 6 → ra M2 o1 3 j = V1 j) ∧ p_lp pn (p_av1 pb pn 13) ((c1, s1), V1) = p_av pb pn := ⟨0, s18, _, p_dv, ⟨_, _, _, _, _, _, _, q27, q28, q29, q30, q31, q32, q33, h34, Im.o h35, Im.o h36⟩, f9, by omega, q15, by omega, by omega, by omega, q16, K14, by rw [← e19]; rfl⟩
  exact mv_less (Nat.le_of_ble_eq_true rfl) (Nat.le_of_ble_eq_true rfl) (L8_37 22 0 T4 M2 n3 I6 t11 t12 (by first | omega | decide) (by first | omega | decide) f8 K13 T121 (by show (21 - (0 : Int) : Int) < _; decide))
