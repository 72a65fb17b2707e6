/-! THE FUNDS' ACCOUNTS: a row of 101 flags for each (p34; behind dvals) -/
section GA
variable {W : Nat → Bool} {x n0 n n1 o L F R1 N : Nat} {T T0 T1 : tm_H} {M M0 M1 : mj_M} {R : Nat → Nat} {G : Nat → Nat → Int}
theorem ra_g {o c k R : Nat} (h : tm_at M o c k (.ref R)) (h1 : tm_at M1 o c k (.ref R)) (e : M1 R = M R) (i : Nat) : ra M1 o k i = ra M o k i := by
  unfold ra
  rw [tm_rr h1, tm_rr h, e]
/-- the rows of the funds that the desk has: all different -/
def qG (M : mj_M) (L F : Nat) (R : Nat → Nat) (G : Nat → Nat → Int) : Prop := (∀ i j : Nat, i < F → j < F → R i = R j → i = j) ∧ ∀ i : Nat, i < F → ∃ f, tm_ge M L i f ∧ tm_at M f 6 14 (.ref (R i)) ∧ ∀ y : Nat, y < 101 → ra M f 14 y = G i y
theorem tm_ga {f : Nat} (h0 : tm_W tm_FT T M) (tf : T f = some (0, 6, 0)) (h : tm_at M f 6 14 (.ref R1)) : T R1 = some (1, 5314, 101) := by
  obtain ⟨fs, hm, hl, hfs⟩ := h0 f _ tf
  obtain ⟨v, e1, e2⟩ := hfs 14 (2, 1, 5314, 101) rfl
  obtain ⟨fs1, e3, e4⟩ := h
  cases hm.symm.trans e3
  cases e4.symm.trans e1
  obtain ⟨b9, e5, e6⟩ := e2
  cases e5
  exact e6
theorem qG.keepU (h : qG M L F R G) (h0 : tm_W tm_FT T M) (J : tm_I tm_FT W x T M n T1 M1 n1) (tL : T L = some (3, 6, o)) (w1 : W 614 = false) (U : ∀ R : Nat, T R = some (1, 5314, 101) → M1 R = M R) (E : ∀ i b : Nat, tm_ge M L i b → tm_ge M1 L i b) : qG M1 L F R G := by
  refine ⟨h.1, fun i hi => ?_⟩
  obtain ⟨f, h3, h4, h5⟩ := h.2 i hi
  obtain ⟨m, k, e, N, g, hls⟩ := h0 L _ tL
  have tf : T f = some (0, 6, 0) := (tm_ge.el hls h3).2.2
  have h6 := J.keep tf w1 h4
  exact ⟨f, E _ _ h3, h6, fun y hy => (ra_g h4 h6 (U _ (tm_ga h0 tf h4)) y).trans (h5 y hy)⟩
theorem tm_keepV (J : tm_I tm_FT W x T M n T1 M1 n1) (h : T R1 = some (1, 5314, N)) (hW : W 664 = false) : M1 R1 = M R1 := J.2.2.2.2.2.2.1 R1 _ h (by show W (5314 / 8) = false; exact hW)
theorem qG.keep (h : qG M L F R G) (h0 : tm_W tm_FT T M) (J : tm_I tm_FT W x T M n T1 M1 n1) (tL : T L = some (3, 6, o)) (w1 : W 614 = false) (w2 : W 664 = false) (w3 : W 5006 = false) : qG M1 L F R G :=
  h.keepU h0 J tL w1 (fun _ hR => tm_keepV J hR w2) (fun _ _ hg => tm_I.keepG h0 J tL w3 hg)
/-- one fund more -/
theorem qG.more {f : Nat} (h : qG M L F R G) (g : tm_ge M L F f) (h4 : tm_at M f 6 14 (.ref R1)) (hz : ∀ y : Nat, y < 101 → ra M f 14 y = 0) (h0 : ∀ y : Nat, G F y = 0) (hR : ∀ i : Nat, i < F → R i ≠ R1) : qG M L (F + 1) (fun i => if i = F then R1 else R i) G := by
  refine ⟨fun i j hi hj e => ?_, fun i hi => ?_⟩
  · by_cases e1 : i = F
    · by_cases e2 : j = F
      · omega
      · simp only [if_pos e1, if_neg e2] at e
        exact absurd e.symm (hR j (by omega))
    · by_cases e2 : j = F
      · simp only [if_neg e1, if_pos e2] at e
        exact absurd e (hR i (by omega))
      · simp only [if_neg e1, if_neg e2] at e
        exact h.1 i j (by omega) (by omega) e
  · by_cases e1 : i = F
    · subst e1
      simp only [if_pos]
      exact ⟨f, g, h4, fun y hy => (hz y hy).trans (h0 y).symm⟩
    · simp only [if_neg e1]
      exact h.2 i (by omega)
/-- an account is taken -/
def p_gv (G : Nat → Nat → Int) (x y : Nat) : Nat → Nat → Int := fun i j => if i = x ∧ j = y then 1 else G i j
theorem qG.put {f X Y : Nat} (h : qG M L F R G) (h0 : tm_W tm_FT T M) (J : tm_I tm_FT W x T M n T1 M1 n1) (tL : T L = some (3, 6, o)) (w1 : W 614 = false) (U : ∀ R9 : Nat, T R9 = some (1, 5314, 101) → R9 ≠ R X → M1 R9 = M R9) (E : ∀ i b : Nat, tm_ge M L i b → tm_ge M1 L i b) (hX : X < F) (g : tm_ge M L X f) (P : ∀ j : Nat, ra M1 f 14 j = if j = Y then 1 else ra M f 14 j) : qG M1 L F R (p_gv G X Y) := by
  refine ⟨h.1, fun i hi => ?_⟩
  obtain ⟨f1, h3, h4, h5⟩ := h.2 i hi
  obtain ⟨m, k, e, N, g9, hls⟩ := h0 L _ tL
  have tf : T f1 = some (0, 6, 0) := (tm_ge.el hls h3).2.2
  have h6 := J.keep tf w1 h4
  by_cases e1 : i = X
  · subst e1
    obtain rfl := tm_ge.fn g h3
    refine ⟨f, E _ _ h3, h6, fun y hy => ?_⟩
    rw [P y]
    show _ = if i = i ∧ y = Y then 1 else G i y
    by_cases e2 : y = Y
    · rw [if_pos e2, if_pos ⟨rfl, e2⟩]
    · rw [if_neg e2, if_neg (fun h9 => e2 h9.2)]
      exact h5 y hy
  · refine ⟨f1, E _ _ h3, h6, fun y hy => ?_⟩
    have e3 : R i ≠ R X := fun h9 => e1 (h.1 i X hi hX h9)
    rw [ra_g h4 h6 (U _ (tm_ga h0 tf h4) e3) y, h5 y hy]
    exact (if_neg (fun h9 => e1 h9.1)).symm
/-- the reference's -/
def aG (M : mj_M) (F : Nat) (G : Nat → Nat → Int) : Prop := (∀ i y : Nat, i < 12 → y < 101 → ra M 99 71 (101 * i + y) = G i y) ∧ ∀ i y : Nat, F ≤ i → G i y = 0
theorem aG.same (h : aG M F G) (e : ∀ i, ra M1 99 71 i = ra M 99 71 i) : aG M1 F G := ⟨fun i y hi hy => (e _).trans (h.1 i y hi hy), h.2⟩
theorem aG.mono {F1 : Nat} (h : aG M F G) (hF : F ≤ F1) : aG M F1 G := ⟨h.1, fun i y hi => h.2 i y (by omega)⟩
theorem aG.put {X Y : Nat} (h : aG M F G) (hX : X < F) (hY : Y < 101) (P : ∀ j : Nat, ra M1 99 71 j = if j = 101 * X + Y then 1 else ra M 99 71 j) : aG M1 F (p_gv G X Y) := by
  refine ⟨fun i y hi hy => ?_, fun i y hi => ?_⟩
  · rw [P, h.1 i y hi hy]
    show _ = if i = X ∧ y = Y then 1 else G i y
    by_cases e : i = X ∧ y = Y
    · rw [if_pos e, if_pos (by omega)]
    · rw [if_neg e, if_neg (by omega)]
  · exact (if_neg (fun h9 => by omega)).trans (h.2 i y hi)
end GA
section GB
variable {g : mj_G} {l : Launch} {y : mj_Y} {d pc : Nat} {lv : List (Nat × Value)} {st : List Value} {M M0 M1 : mj_M} {nx n0 kc ks x o : Nat} {Q : Option Value → mj_M → Nat → Prop} {W : Nat → Bool} {T T0 : tm_H}
theorem tr_zaldC {o c k a e N : Nat} {i : Int32} (I : tm_I tm_FT W x T0 M0 n0 T M nx) (hq : tm_at M o c k (.ref a)) (ta : T a = some (1, e, N)) (he : e % 8 = 2) (hd : decode y.2.1 pc = .ok (.baload, 1)) (hin : vp_in i N) (kk : ∀ v : Int32, v.toInt = ra M o k i.toNatClampNeg → mj_V g l y d (pc + 1) lv (.int v :: st) M nx kc ks Q) : mj_V g l y d pc lv (.int i :: .ref a :: st) M nx kc ks Q := by
  obtain ⟨f, hm⟩ := tm_arrI I ta (by omega)
  have hm0 := hm
  rw [he] at hm
  exact mv_zald hd hm hin rfl (kk _ (by rw [ra_of hq hm0]; rfl))
theorem tr_zastC {c k a e N : Nat} {i v : Int32} (I : tm_I tm_FT W x T0 M0 n0 T M nx) (hq : tm_at M o c k (.ref a)) (ta : T a = some (1, e, N)) (he : e % 8 = 2) (hW : W (e / 8) = true ∨ n0 ≤ a) (hd : decode y.2.1 pc = .ok (.bastore, 1)) (hin : vp_in i N) (kk : ∀ M1, tm_I tm_FT W x T0 M0 n0 T M1 nx → (∀ (b c k : Nat) (w : Value), tm_at M b c k w → tm_at M1 b c k w) → (∀ j, ra M1 o k j = if j = i.toNatClampNeg then (vp_nar .boolean v).toInt else ra M o k j) → (∀ b, b ≠ a → M1 b = M b) → mj_V g l y d (pc + 1) lv st M1 nx kc ks Q) : mj_V g l y d pc lv (.int v :: .int i :: .ref a :: st) M nx kc ks Q := by
  obtain ⟨f, hm⟩ := tm_arrI I ta (by omega)
  have hm0 := hm
  rw [he] at hm
  have hra : ∀ j, ra M o k j = (f j).toInt := fun j => by rw [ra_of hq hm0]; rfl
  refine mv_zast hd hm hin rfl (kk _ (I.ast tm_okF ta hW (tm_c1 (by omega) (by rw [mj_up_self, he]))) (tm_at.ast hm0) (fun j => ?_) (fun b hb => mj_up_ne _ _ hb))
  have h1 := tm_at.ast (c9 := .inl (2, N, .inl (upd f i.toNatClampNeg (vp_nar .boolean v)))) hm0 _ _ _ _ hq
  rw [ra_of h1 (mj_up_self _ _ _) j, hra]
  show (upd f i.toNatClampNeg (vp_nar .boolean v) j).toInt = _
  unfold upd
  by_cases h : j = i.toNatClampNeg
  · rw [if_pos h, if_pos h]
  · rw [if_neg h, if_neg h]
end GB
section MRG
variable {g : mj_G} {l : Launch} {y : mj_Y} {d pc : Nat} {lv : List (Nat × Value)} {st : List Value} {M M0 : mj_M} {nx n0 kc ks x : Nat} {Q : Option Value → mj_M → Nat → Prop} {W : Nat → Bool} {T T0 : tm_H}
/-- a flag of a row is written, told exactly -/
theorem tr_zastE {o k a e N : Nat} {i : Int32} {v : Int32} (I : tm_I tm_FT W x T0 M0 n0 T M nx) (R : rI M o) (to : T o = some (0, 13, 0)) (hq : tm_at M o 13 k (.ref a)) (ta : T a = some (1, e, N)) (he : e % 8 = 2) (he2 : e / 8 = 20000 + k) (hb : ∀ lo hi, rgA k = some (lo, hi) → lo ≤ (vp_nar .boolean v).toInt ∧ (vp_nar .boolean v).toInt ≤ hi) (hW : W (e / 8) = true ∨ n0 ≤ a) (hd : decode y.2.1 pc = .ok (.bastore, 1)) (hin : vp_in i N) (kk : ∀ M1, tm_I tm_FT W x T0 M0 n0 T M1 nx → (∀ (b c k : Nat) (w : Value), tm_at M b c k w → tm_at M1 b c k w) → rI M1 o → (∀ j, ra M1 o k j = if j = i.toNatClampNeg then (vp_nar .boolean v).toInt else ra M o k j) → (∀ j, j ≠ k → rgK j = true → ∀ i, ra M1 o j i = ra M o j i) → (∀ j, rv M1 o j = rv M o j) → mj_V g l y d (pc + 1) lv st M1 nx kc ks Q) : mj_V g l y d pc lv (.int v :: .int i :: .ref a :: st) M nx kc ks Q := by
  obtain ⟨f, hm⟩ := tm_arrI I ta (by omega)
  have hm0 := hm
  rw [he] at hm
  have hra : ∀ j, ra M o k j = (f j).toInt := fun j => by rw [ra_of hq hm0]; rfl
  have hrc : ∀ j, ((upd f i.toNatClampNeg (vp_nar .boolean v)) j).toInt = if j = i.toNatClampNeg then (vp_nar .boolean v).toInt else (f j).toInt := fun j => by
    unfold upd
    by_cases h : j = i.toNatClampNeg
    · rw [if_pos h, if_pos h]
    · rw [if_neg h, if_neg h]
  refine mv_zast hd hm hin rfl (kk _ (I.ast tm_okF ta hW (tm_c1 (by omega) (by rw [mj_up_self, he]))) (tm_at.ast hm0) (rI_st I R to ta hq he2 fun lo hi hk j => ?_) (fun j => ?_) (fun j hj hK j2 => (ra_st I to ta hq he2 j2).2.2 hj hK) (fun j => (ra_st I to ta hq he2 0).1))
  · show lo ≤ ((upd f i.toNatClampNeg (vp_nar .boolean v)) j).toInt ∧ ((upd f i.toNatClampNeg (vp_nar .boolean v)) j).toInt ≤ hi
    rw [hrc]
    by_cases h : j = i.toNatClampNeg
    · rw [if_pos h]
      exact hb lo hi hk
    · rw [if_neg h, ← hra]
      exact R.a hk j
  · rw [(ra_st (j := k) I to ta hq he2 j).2.1]
    show ((upd f i.toNatClampNeg (vp_nar .boolean v)) j).toInt = _
    rw [hrc, hra]
end MRG
theorem tr_newzV {g : mj_G} {l : Launch} {y : mj_Y} {d pc : Nat} {lv : List (Nat × Value)} {st : List Value} {M M0 : mj_M} {nx n0 kc ks x : Nat} {Q : Option Value → mj_M → Nat → Prop} {W : Nat → Bool} {T T0 : tm_H} {E N kc' ks' : Nat} {n : Int32} (hF : tm_ok tm_FT) (I : tm_I tm_FT W x T0 M0 n0 T M nx) (hE : E % 8 = 2) (hd : decode y.2.1 pc = .ok (.newarray .boolean, 2)) (hn : ¬ n < 0) (hN : n.toNatClampNeg = N) (hbt : N * 1 ≤ 536870912) (hkc : kc' + 1 ≤ kc) (hks : ks' + N ≤ ks) (kk : ∀ (T1 : tm_H) (M1 : mj_M), tm_I tm_FT W x T0 M0 n0 T1 M1 (nx + 1) → T1 nx = some (1, E, N) → (∀ b t, T b = some t → T1 b = some t) → (∀ b t, T b = some t → M1 b = M b) → M1 nx = some (.inl (2, N, .inl (fun _ => 0))) → mj_V g l y d (pc + 2) lv (.ref nx :: st) M1 (nx + 1) kc' ks' Q) : mj_V g l y d pc lv (.int n :: st) M nx kc ks Q :=
  mv_newa_bool hd hn hN hbt hkc hks (kk _ _ (I.arr hF (fun T1 => tm_c1 (by omega) (by rw [mj_up_self, hE]))) (if_pos rfl) (fun b t h => (if_neg (tm_ne I h)).trans h) (fun b t h => mj_up_ne _ _ (tm_ne I h)) (mj_up_self _ _ _))
section GC
variable {W : Nat → Bool} {x n n1 o p L F : Nat} {T T1 : tm_H} {M M1 : mj_M} {R : Nat → Nat} {G : Nat → Nat → Int}
/-- something is written into the desk itself -/
theorem qG.at12 (h : qG M L F R G) (h0 : tm_W tm_FT T M) (tL : T L = some (3, 6, o)) (tp : T p = some (0, 12, 0)) (hM : ∀ q, q ≠ p → M1 q = M q) : qG M1 L F R G := by
  refine ⟨h.1, fun i hi => ?_⟩
  obtain ⟨f, h3, h4, h5⟩ := h.2 i hi
  obtain ⟨m, k, e, N, g, hls⟩ := h0 L _ tL
  have tf : T f = some (0, 6, 0) := (tm_ge.el hls h3).2.2
  have tr := tm_ga h0 tf h4
  have nf : f ≠ p := fun h9 => by
    rw [h9] at tf
    exact absurd (tf.symm.trans tp) (by decide)
  have nr : R i ≠ p := fun h9 => by
    rw [h9] at tr
    exact absurd (tr.symm.trans tp) (by decide)
  have h6 : tm_at M1 f 6 14 (.ref (R i)) := tm_at.eq (hM f nf) h4
  exact ⟨f, tm_ge.put h0 tL tp (by decide) hM h3, h6, fun y hy => (ra_g h4 h6 (hM _ nr) y).trans (h5 y hy)⟩
/-- a year's account is taken, or not -/
theorem qG.take {f X Y : Nat} {v : Int} {P : Prop} (h : qG M L F R G) (h0 : tm_W tm_FT T M) (J : tm_I tm_FT W x T M n T1 M1 n1) (tL : T L = some (3, 6, o)) (w1 : W 614 = false) (w3 : W 5006 = false) (hX : X < F) (g : tm_ge M L X f) (q : ∀ y : Nat, y < 101 → ra M f 14 y = G X y) (hY : Y < 101) (hP : P) (D : (v = 0 ∧ ¬ (P ∧ ra M f 14 Y = 0) ∧ ∀ R9 : Nat, T R9 = some (1, 5314, 101) → M1 R9 = M R9) ∨ (v = 1 ∧ (P ∧ ra M f 14 Y = 0) ∧ ∀ j : Nat, ra M1 f 14 j = if j = Y then 1 else ra M f 14 j)) (U : ∀ R9 : Nat, T R9 = some (1, 5314, 101) → R9 ≠ R X → M1 R9 = M R9) : (v = 0 ∧ G X Y ≠ 0 ∧ qG M1 L F R G) ∨ (v = 1 ∧ G X Y = 0 ∧ qG M1 L F R (p_gv G X Y)) := by
  have E : ∀ i b : Nat, tm_ge M L i b → tm_ge M1 L i b := fun _ _ hg => tm_I.keepG h0 J tL w3 hg
  rcases D with ⟨d1, d2, d3⟩ | ⟨d1, d2, d3⟩
  · refine Or.inl ⟨d1, fun h9 => d2 ⟨hP, (q Y hY).trans h9⟩, h.keepU h0 J tL w1 d3 E⟩
  · exact Or.inr ⟨d1, (q Y hY).symm.trans d2.2, h.put h0 J tL w1 U E hX g d3⟩
end GC
def w_TrustDeskModel_account_f : List Nat := [1300, 1370, 20071]
set_option maxHeartbeats 100000000 in theorem tc_TrustDeskModel_account_f {g : mj_G} {l : Launch} {d : Nat} {T0 : tm_H} {M0 : mj_M} {n0 x9 : Nat} {o0 : Nat} {x1 : Int32} {x2 : Int32} (h_o0 : T0 o0 = some (0, 13, 0)) (yR : rI M0 o0) (y8 : ∀ i : Nat, i < 880 → 0 ≤ ra M0 o0 8 i) (I0 : tm_I tm_FT (tm_in w_TrustDeskModel_account_f) x9 T0 M0 n0 T0 M0 n0) : mj_Met g l kY_TrustDeskModel_account (d + 2) [.ref o0, .int x1, .int x2] M0 n0 0 0 (tm_Q tm_FT (tm_in w_TrustDeskModel_account_f) x9 T0 M0 n0 (fun r _ M => ∃ v : Int32, r = some (.int v) ∧ rI M o0 ∧ ((v.toInt = -1 ∧ ¬ (0 ≤ x1.toInt ∧ x1.toInt < rv M0 o0 32 ∧ 0 ≤ x2.toInt ∧ x2.toInt ≤ 100 ∧ 360 * (x2.toInt + 1) ≤ rv M0 o0 1 ∧ ra M0 o0 71 (101 * x1.toInt + x2.toInt).toNat = 0 ∧ rv M0 o0 70 ≠ 200) ∧ rv M o0 70 = rv M0 o0 70 ∧ ∀ i, ra M o0 71 i = ra M0 o0 71 i) ∨ ((0 ≤ x1.toInt ∧ x1.toInt < rv M0 o0 32 ∧ 0 ≤ x2.toInt ∧ x2.toInt ≤ 100 ∧ 360 * (x2.toInt + 1) ≤ rv M0 o0 1 ∧ ra M0 o0 71 (101 * x1.toInt + x2.toInt).toNat = 0 ∧ rv M0 o0 70 ≠ 200) ∧ rv M o0 70 = rv M0 o0 70 + 1 ∧ (∀ i, ra M o0 71 i = if i = (101 * x1.toInt + x2.toInt).toNat then 1 else ra M0 o0 71 i) ∧ ((v.toInt = 0 ∧ (rv M0 o0 1 - (360 * x2.toInt + 359) - p_tr M0 o0 (360 * x2.toInt + 359) 3) ≤ 0) ∨ (v.toInt = (rv M0 o0 1 - (360 * x2.toInt + 359) - p_tr M0 o0 (360 * x2.toInt + 359) 3) ∧ 0 < (rv M0 o0 1 - (360 * x2.toInt + 359) - p_tr M0 o0 (360 * x2.toInt + 359) 3))))))) := by
  refine mj_enter (by decide) (Nat.le_of_ble_eq_true rfl) ?_
  have K1 : ∀ i : Nat, i < 880 → 0 ≤ ra M0 o0 8 i := y8
  have K2 : sA [6, 7, 8, 28] M0 M0 o0 := sA.rf
  have K3 : ∀ i, ra M0 o0 71 i = ra M0 o0 71 i := (fun _ => rfl)
  refine mv_aload_n d_TrustDeskModel_account_0 rfl rfl ?_
  refine mv_iconst (v := 0) d_TrustDeskModel_account_1 (by decide) ?_
  refine tr_putR (k := 0) I0 yR h_o0 rfl ⟨_, rfl⟩ (fun _ h => by cases h) rfl (fun lo hi h => by cases h) (Or.inl (by decide)) d_TrustDeskModel_account_2 p_TrustDeskModel_1_13 rfl rfl (fun M4 I5 q6 K7 R8 A9 V10 => ?_)
  have z11 := (V10 1 (by decide))
  have z12 := (V10 27 (by decide))
  have z13 := (V10 32 (by decide))
  have z14 := (V10 70 (by decide))
  have K15 : ∀ i : Nat, i < 880 → 0 ≤ ra M4 o0 8 i := (by have e9 := ((sA_f A9 (by decide)) : sA [8] _ _ _) 8 rfl; rw [e9]; exact K1)
  have K16 : sA [6, 7, 8, 28] M0 M4 o0 := K2.trans (sA_f A9 (by decide))
  have K17 : ∀ i, ra M4 o0 71 i = ra M0 o0 71 i := (fun i => (congrFun (((sA_f A9 (by decide)) : sA [71] _ _ _) 71 rfl) i).trans (K3 i))
  refine mv_aload_n d_TrustDeskModel_account_5 rfl rfl ?_
  refine mv_iload_n d_TrustDeskModel_account_6 rfl rfl ?_
  obtain ⟨_, b18, -⟩ := I5.1 _ _ h_o0
  refine mv_callV (kc1 := 0) (ks1 := 0) (kc' := 0) (ks' := 0) (As := [.int x1]) (st9 := [.int x1, .ref o0]) d_TrustDeskModel_account_7 lV_TrustDeskModel_418 b18 rfl (mj_enter (by decide) (Nat.le_of_ble_eq_true rfl) ?_) rfl (Nat.le_of_ble_eq_true rfl) (Nat.le_of_ble_eq_true rfl) (Nat.le_of_ble_eq_true rfl) (hst := rfl) (fun _ _ _ h => h)
  refine mv_iload_n d_TrustDeskModel_isFund_0 rfl rfl ?_
  have := mz_hi x1
  refine mv_if_ltZ (tgt := 16) (a := x1.toInt) d_TrustDeskModel_isFund_1 (by decide) rfl (fun b19 => ?_) (fun b19 => ?_)
  · refine mv_iconst (v := 0) d_TrustDeskModel_isFund_16 (by decide) ?_
    refine mv_iret d_TrustDeskModel_isFund_17 rfl (by decide) ?_
    refine mv_if_eq_t (tgt := 58) d_TrustDeskModel_account_10 (by decide) (by decide) ?_
    refine mv_iconst (v := (-1)) d_TrustDeskModel_account_58 (by decide) ?_
    exact mv_iret d_TrustDeskModel_account_59 rfl (by first | rfl | decide) ⟨_, I5, _, rfl, R8, (Or.inl ⟨by decide, by omega, z14, K17⟩)⟩
  · refine mv_iload_n d_TrustDeskModel_isFund_4 rfl rfl ?_
    refine mv_aload_n d_TrustDeskModel_isFund_5 rfl rfl ?_
    obtain ⟨v21, q20⟩ := tm_atI I5 h_o0 (k := 32) rfl
    refine tr_getK q20 d_TrustDeskModel_isFund_6 f_TrustDeskModel_415_13 ?_
    have := R8.f (k := 32) q20 rfl
    have := (tm_rv q20).symm.trans z13
    have := tm_rv q20
    have := mz_hi x1
    have := mz_hi v21
    refine mv_icmp_geZ (tgt := 16) (a := x1.toInt) (b := v21.toInt) d_TrustDeskModel_isFund_9 (by decide) rfl rfl (fun b22 => ?_) (fun b22 => ?_)
    · refine mv_iconst (v := 0) d_TrustDeskModel_isFund_16 (by decide) ?_
      refine mv_iret d_TrustDeskModel_isFund_17 rfl (by decide) ?_
      refine mv_if_eq_t (tgt := 58) d_TrustDeskModel_account_10 (by decide) (by decide) ?_
      refine mv_iconst (v := (-1)) d_TrustDeskModel_account_58 (by decide) ?_
      exact mv_iret d_TrustDeskModel_account_59 rfl (by first | rfl | decide) ⟨_, I5, _, rfl, R8, (Or.inl ⟨by decide, by omega, z14, K17⟩)⟩
    · refine mv_iconst (v := 1) d_TrustDeskModel_isFund_12 (by decide) ?_
      refine mv_goto (tgt := 17) d_TrustDeskModel_isFund_13 (by decide) ?_
      refine mv_iret d_TrustDeskModel_isFund_17 rfl (by decide) ?_
      refine mv_if_eq_f (tgt := 58) d_TrustDeskModel_account_10 (by decide) (by decide) ?_
      refine mv_iload_n d_TrustDeskModel_account_13 rfl rfl ?_
      refine mv_callS (kc1 := 0) (ks1 := 0) (kc' := 0) (ks' := 0) (As := [.int x2]) (st9 := [.int x2]) d_TrustDeskModel_account_14 lS_TrustDeskModel_173 (mj_enter (by decide) (Nat.le_of_ble_eq_true rfl) ?_) rfl (Nat.le_of_ble_eq_true rfl) (Nat.le_of_ble_eq_true rfl) (Nat.le_of_ble_eq_true rfl) (hst := rfl) (fun _ _ _ h => h)
      refine mv_iload_n d_TrustDeskModel_isYear_0 rfl rfl ?_
      have := mz_hi x2
      refine mv_if_ltZ (tgt := 14) (a := x2.toInt) d_TrustDeskModel_isYear_1 (by decide) rfl (fun b23 => ?_) (fun b23 => ?_)
      · refine mv_iconst (v := 0) d_TrustDeskModel_isYear_14 (by decide) ?_
        refine mv_iret d_TrustDeskModel_isYear_15 rfl (by decide) ?_
        refine mv_if_eq_t (tgt := 58) d_TrustDeskModel_account_17 (by decide) (by decide) ?_
        refine mv_iconst (v := (-1)) d_TrustDeskModel_account_58 (by decide) ?_
        exact mv_iret d_TrustDeskModel_account_59 rfl (by first | rfl | decide) ⟨_, I5, _, rfl, R8, (Or.inl ⟨by decide, by omega, z14, K17⟩)⟩
      · refine mv_iload_n d_TrustDeskModel_isYear_4 rfl rfl ?_
        refine mv_bipush (v := 100) d_TrustDeskModel_isYear_5 (by decide) ?_
        have := mz_hi x2
        refine mv_icmp_gtZ (tgt := 14) (a := x2.toInt) (b := 100) d_TrustDeskModel_isYear_7 (by decide) rfl (by decide) (fun b24 => ?_) (fun b24 => ?_)
        · refine mv_iconst (v := 0) d_TrustDeskModel_isYear_14 (by decide) ?_
          refine mv_iret d_TrustDeskModel_isYear_15 rfl (by decide) ?_
          refine mv_if_eq_t (tgt := 58) d_TrustDeskModel_account_17 (by decide) (by decide) ?_
          refine mv_iconst (v := (-1)) d_TrustDeskModel_account_58 (by decide) ?_
          exact mv_iret d_TrustDeskModel_account_59 rfl (by first | rfl | decide) ⟨_, I5, _, rfl, R8, (Or.inl ⟨by decide, by omega, z14, K17⟩)⟩
        · refine mv_iconst (v := 1) d_TrustDeskModel_isYear_10 (by decide) ?_
          refine mv_goto (tgt := 15) d_TrustDeskModel_isYear_11 (by decide) ?_
          refine mv_iret d_TrustDeskModel_isYear_15 rfl (by decide) ?_
          refine mv_if_eq_f (tgt := 58) d_TrustDeskModel_account_17 (by decide) (by decide) ?_
          refine mv_aload_n d_TrustDeskModel_account_20 rfl rfl ?_
          obtain ⟨v26, q25⟩ := tm_atI I5 h_o0 (k := 1) rfl
          refine tr_getK q25 d_TrustDeskModel_account_21 f_TrustDeskModel_164_13 ?_
          have := R8.f (k := 1) q25 rfl
          have := (tm_rv q25).symm.trans z11
          have := tm_rv q25
          refine mv_sipush (v := 360) d_TrustDeskModel_account_24 (by decide) ?_
          refine mv_iload_n d_TrustDeskModel_account_27 rfl rfl ?_
          refine mv_iconst (v := 1) d_TrustDeskModel_account_28 (by decide) ?_
          refine mv_iadd d_TrustDeskModel_account_29 ?_
          refine mv_imul d_TrustDeskModel_account_30 ?_
          have b27 : (x2 + 1 : Int32).toInt = (x2.toInt + 1) := mz_add2 rfl (by decide) (by have := R8.1 1 _ _ rfl; have := R8.1 27 _ _ rfl; have := R8.1 32 _ _ rfl; have := R8.1 70 _ _ rfl; omega) (by have := R8.1 1 _ _ rfl; have := R8.1 27 _ _ rfl; have := R8.1 32 _ _ rfl; have := R8.1 70 _ _ rfl; omega)
          have b28 : (360 * (x2 + 1) : Int32).toInt = (360 * (x2.toInt + 1)) := mz_mul2 (by decide) b27 (by have := R8.1 1 _ _ rfl; have := R8.1 27 _ _ rfl; have := R8.1 32 _ _ rfl; have := R8.1 70 _ _ rfl; omega) (by have := R8.1 1 _ _ rfl; have := R8.1 27 _ _ rfl; have := R8.1 32 _ _ rfl; have := R8.1 70 _ _ rfl; omega)
          have := mz_hi v26
          have := mz_hi (360 * (x2 + 1))
          refine mv_icmp_ltZ (tgt := 58) (a := v26.toInt) (b := (360 * (x2 + 1)).toInt) d_TrustDeskModel_account_31 (by decide) rfl rfl (fun b29 => ?_) (fun b29 => ?_)
          · refine mv_iconst (v := (-1)) d_TrustDeskModel_account_58 (by decide) ?_
            exact mv_iret d_TrustDeskModel_account_59 rfl (by first | rfl | decide) ⟨_, I5, _, rfl, R8, (Or.inl ⟨by decide, by omega, z14, K17⟩)⟩
          · refine mv_aload_n d_TrustDeskModel_account_34 rfl rfl ?_
            obtain ⟨a31, q30, t_a31⟩ := tm_atR I5 h_o0 (k := 71) rfl
            refine tr_getK q30 d_TrustDeskModel_account_35 f_TrustDeskModel_161_13 ?_
            refine mv_bipush (v := 101) d_TrustDeskModel_account_38 (by decide) ?_
            refine mv_iload_n d_TrustDeskModel_account_40 rfl rfl ?_
            refine mv_imul d_TrustDeskModel_account_41 ?_
            refine mv_iload_n d_TrustDeskModel_account_42 rfl rfl ?_
            refine mv_iadd d_TrustDeskModel_account_43 ?_
            have b32 : (101 * x1 : Int32).toInt = (101 * x1.toInt) := mz_mul2 (by decide) rfl (by have := R8.1 1 _ _ rfl; have := R8.1 27 _ _ rfl; have := R8.1 32 _ _ rfl; have := R8.1 70 _ _ rfl; omega) (by have := R8.1 1 _ _ rfl; have := R8.1 27 _ _ rfl; have := R8.1 32 _ _ rfl; have := R8.1 70 _ _ rfl; omega)
            have b33 : ((101 * x1) + x2 : Int32).toInt = ((101 * x1.toInt) + x2.toInt) := mz_add2 b32 rfl (by have := R8.1 1 _ _ rfl; have := R8.1 27 _ _ rfl; have := R8.1 32 _ _ rfl; have := R8.1 70 _ _ rfl; omega) (by have := R8.1 1 _ _ rfl; have := R8.1 27 _ _ rfl; have := R8.1 32 _ _ rfl; have := R8.1 70 _ _ rfl; omega)
            refine tr_zaldR (o := o0) (k := 71) I5 q30 t_a31 (by decide) d_TrustDeskModel_account_44 (vp_in_iff.mpr (by have := R8.1 1 _ _ rfl; have := R8.1 27 _ _ rfl; have := R8.1 32 _ _ rfl; have := R8.1 70 _ _ rfl; omega)) (fun v34 e35 => ?_)
            have : v34.toInt = ra M0 o0 71 (101 * x1.toInt + x2.toInt).toNat := by rw [e35, show ((101 * x1) + x2).toNatClampNeg = (101 * x1.toInt + x2.toInt).toNat from by have := mz_nat9 (i := ((101 * x1) + x2)) (by have := R8.1 1 _ _ rfl; have := R8.1 27 _ _ rfl; have := R8.1 32 _ _ rfl; have := R8.1 70 _ _ rfl; omega); omega]; exact K17 _
            have := mz_hi v34
            refine mv_if_neZ (tgt := 58) (a := v34.toInt) d_TrustDeskModel_account_45 (by decide) rfl (fun b36 => ?_) (fun b36 => ?_)
            · refine mv_iconst (v := (-1)) d_TrustDeskModel_account_58 (by decide) ?_
              exact mv_iret d_TrustDeskModel_account_59 rfl (by first | rfl | decide) ⟨_, I5, _, rfl, R8, (Or.inl ⟨by decide, by omega, z14, K17⟩)⟩
            · refine mv_aload_n d_TrustDeskModel_account_48 rfl rfl ?_
              obtain ⟨v38, q37⟩ := tm_atI I5 h_o0 (k := 70) rfl
              refine tr_getK q37 d_TrustDeskModel_account_49 f_TrustDeskModel_592_13 ?_
              have := R8.f (k := 70) q37 rfl
              have := (tm_rv q37).symm.trans z14
              have := tm_rv q37
              refine mv_sipush (v := 200) d_TrustDeskModel_account_52 (by decide) ?_
              have := mz_hi v38
              refine mv_icmp_neZ (tgt := 60) (a := v38.toInt) (b := 200) d_TrustDeskModel_account_55 (by decide) rfl (by decide) (fun b39 => ?_) (fun b39 => ?_)
              · refine mv_aload_n d_TrustDeskModel_account_60 rfl rfl ?_
                refine tr_getK (k := 71) q30 d_TrustDeskModel_account_61 f_TrustDeskModel_161_13 ?_
                refine mv_bipush (v := 101) d_TrustDeskModel_account_64 (by decide) ?_
                refine mv_iload_n d_TrustDeskModel_account_66 rfl rfl ?_
                refine mv_imul d_TrustDeskModel_account_67 ?_
                refine mv_iload_n d_TrustDeskModel_account_68 rfl rfl ?_
                refine mv_iadd d_TrustDeskModel_account_69 ?_
                refine mv_iconst (v := 1) d_TrustDeskModel_account_70 (by decide) ?_
                have b40 : (101 * x1 : Int32).toInt = (101 * x1.toInt) := mz_mul2 (by decide) rfl (by have := R8.1 1 _ _ rfl; have := R8.1 27 _ _ rfl; have := R8.1 32 _ _ rfl; have := R8.1 70 _ _ rfl; omega) (by have := R8.1 1 _ _ rfl; have := R8.1 27 _ _ rfl; have := R8.1 32 _ _ rfl; have := R8.1 70 _ _ rfl; omega)
                have b41 : ((101 * x1) + x2 : Int32).toInt = ((101 * x1.toInt) + x2.toInt) := mz_add2 b40 rfl (by have := R8.1 1 _ _ rfl; have := R8.1 27 _ _ rfl; have := R8.1 32 _ _ rfl; have := R8.1 70 _ _ rfl; omega) (by have := R8.1 1 _ _ rfl; have := R8.1 27 _ _ rfl; have := R8.1 32 _ _ rfl; have := R8.1 70 _ _ rfl; omega)
                refine tr_zastE (k := 71) I5 R8 (I5.up h_o0) q30 t_a31 (by decide) (by decide) (fun lo hi h => by cases h) (Or.inl (by decide)) d_TrustDeskModel_account_71 (vp_in_iff.mpr (by omega)) (fun M42 I43 K44 R45 E46 A47 V48 => ?_)
                have z49 := (V48 1).trans z11
                have z50 := (V48 27).trans z12
                have z51 := (V48 32).trans z13
                have z52 := (V48 70).trans z14
                have K53 : ∀ i : Nat, i < 880 → 0 ≤ ra M42 o0 8 i := (by have e9 := ((sA_a A47 (by decide +kernel)) : sA [8] _ _ _) 8 rfl; rw [e9]; exact K15)
                have K54 : sA [6, 7, 8, 28] M0 M42 o0 := K16.trans (sA_a A47 (by decide +kernel))
                have K55 : ∀ i, ra M42 o0 71 i = if i = (101 * x1.toInt + x2.toInt).toNat then 1 else ra M0 o0 71 i := (fun i => (E46 i).trans (by rw [show ((101 * x1) + x2).toNatClampNeg = (101 * x1.toInt + x2.toInt).toNat from by have := mz_nat9 (i := ((101 * x1) + x2)) (by have := R8.1 1 _ _ rfl; have := R8.1 27 _ _ rfl; have := R8.1 32 _ _ rfl; have := R8.1 70 _ _ rfl; omega); omega, show (vp_nar .boolean 1).toInt = 1 from by decide, K17 i]))
                clear z11 z12 z13 z14
                refine mv_aload_n d_TrustDeskModel_account_72 rfl rfl ?_
                refine mv_dup d_TrustDeskModel_account_73 rfl ?_
                refine tr_getK (k := 70) (K44 _ 13 70 _ q37) d_TrustDeskModel_account_74 f_TrustDeskModel_592_13 ?_
                refine mv_iconst (v := 1) d_TrustDeskModel_account_77 (by decide) ?_
                refine mv_iadd d_TrustDeskModel_account_78 ?_
                have b56 : (v38 + 1 : Int32).toInt = (v38.toInt + 1) := mz_add2 rfl (by decide) (by have := R45.1 1 _ _ rfl; have := R45.1 27 _ _ rfl; have := R45.1 32 _ _ rfl; have := R45.1 70 _ _ rfl; omega) (by have := R45.1 1 _ _ rfl; have := R45.1 27 _ _ rfl; have := R45.1 32 _ _ rfl; have := R45.1 70 _ _ rfl; omega)
                refine tr_putR (k := 70) I43 R45 h_o0 rfl ⟨_, rfl⟩ (fun _ h => by cases h) rfl (fun lo hi h => by cases h; have := R45.1 1 _ _ rfl; have := R45.1 27 _ _ rfl; have := R45.1 32 _ _ rfl; have := R45.1 70 _ _ rfl; exact ⟨by show (0 : Int) ≤ (v38 + 1).toInt; omega, by show (v38 + 1).toInt ≤ (200 : Int); omega⟩) (Or.inl (by decide)) d_TrustDeskModel_account_79 p_TrustDeskModel_592_13 rfl rfl (fun M57 I58 q59 K60 R61 A62 V63 => ?_)
                have z64 := (V63 1 (by decide)).trans z49
                have z65 := (V63 27 (by decide)).trans z50
                have z66 := (V63 32 (by decide)).trans z51
                have z67 : rv M57 o0 70 = (v38 + 1).toInt := tm_rv q59
                have K68 : ∀ i : Nat, i < 880 → 0 ≤ ra M57 o0 8 i := (by have e9 := ((sA_f A62 (by decide)) : sA [8] _ _ _) 8 rfl; rw [e9]; exact K53)
                have K69 : sA [6, 7, 8, 28] M0 M57 o0 := K54.trans (sA_f A62 (by decide))
                have K70 : ∀ i, ra M57 o0 71 i = if i = (101 * x1.toInt + x2.toInt).toNat then 1 else ra M0 o0 71 i := (fun i => (congrFun (((sA_f A62 (by decide)) : sA [71] _ _ _) 71 rfl) i).trans (K55 i))
                clear z49 z50 z51
                refine mv_sipush (v := 360) d_TrustDeskModel_account_82 (by decide) ?_
                refine mv_iload_n d_TrustDeskModel_account_85 rfl rfl ?_
                refine mv_imul d_TrustDeskModel_account_86 ?_
                refine mv_sipush (v := 359) d_TrustDeskModel_account_87 (by decide) ?_
                refine mv_iadd d_TrustDeskModel_account_90 ?_
                refine mv_istore_n (lv' := [(3, .int ((360 * x2) + 359)), (0, .ref o0), (1, .int x1), (2, .int x2)]) d_TrustDeskModel_account_91 rfl (by decide) rfl ?_
                refine mv_iconst (v := 0) d_TrustDeskModel_account_92 (by decide) ?_
                refine mv_aload_n d_TrustDeskModel_account_93 rfl rfl ?_
                refine tr_getK (k := 1) (K60 _ 13 1 _ rfl (K44 _ 13 1 _ q25)) d_TrustDeskModel_account_94 f_TrustDeskModel_164_13 ?_
                refine mv_iload_n d_TrustDeskModel_account_97 rfl rfl ?_
                refine mv_isub d_TrustDeskModel_account_98 ?_
                refine mv_aload_n d_TrustDeskModel_account_99 rfl rfl ?_
                refine mv_iload_n d_TrustDeskModel_account_100 rfl rfl ?_
                refine mv_iconst (v := 3) d_TrustDeskModel_account_101 (by decide) ?_
                obtain ⟨_, b77, -⟩ := I58.1 _ _ h_o0
                have b78 : (360 * x2 : Int32).toInt = (360 * x2.toInt) := mz_mul2 (by decide) rfl (by have := R61.1 1 _ _ rfl; have := R61.1 27 _ _ rfl; have := R61.1 32 _ _ rfl; have := R61.1 70 _ _ rfl; omega) (by have := R61.1 1 _ _ rfl; have := R61.1 27 _ _ rfl; have := R61.1 32 _ _ rfl; have := R61.1 70 _ _ rfl; omega)
                have b79 : ((360 * x2) + 359 : Int32).toInt = ((360 * x2.toInt) + 359) := mz_add2 b78 (by decide) (by have := R61.1 1 _ _ rfl; have := R61.1 27 _ _ rfl; have := R61.1 32 _ _ rfl; have := R61.1 70 _ _ rfl; omega) (by have := R61.1 1 _ _ rfl; have := R61.1 27 _ _ rfl; have := R61.1 32 _ _ rfl; have := R61.1 70 _ _ rfl; omega)
                have : (3 : Int32).toInt = 3 := by decide
                refine mv_callV (kc' := 0) (ks' := 0) (As := [.int ((360 * x2) + 359), .int 3]) (st9 := [.int 3, .int ((360 * x2) + 359), .ref o0, .int (v26 - ((360 * x2) + 359)), .int 0]) d_TrustDeskModel_account_102 lV_TrustDeskModel_396 b77 rfl (tc_TrustDeskModel_toldOn_a (d := d) (x9 := x9) (o0 := o0) (x1 := ((360 * x2) + 359)) (x2 := 3) h_o0 R61 K68 (by decide) I58.start) rfl (Nat.le_of_ble_eq_true rfl) (Nat.le_of_ble_eq_true rfl) (Nat.le_of_ble_eq_true rfl) (hst := rfl) (fun b71r M72 n73 b71 => ?_)
                obtain ⟨T74, J75, v80, rfl, R81, f82, f83⟩ := b71
                have I76 := I58.call J75 (tm_sub (by decide)) (Or.inl rfl)
                have t84 := J75.up h_o0
                have z85 := (rv_c I58 J75 (I58.up h_o0) (k := 1) rfl).trans z64
                have z86 := (rv_c I58 J75 (I58.up h_o0) (k := 27) rfl).trans z65
                have z87 := (rv_c I58 J75 (I58.up h_o0) (k := 32) rfl).trans z66
                have z88 := (rv_c I58 J75 (I58.up h_o0) (k := 70) rfl).trans z67
                have K89 : ∀ i : Nat, i < 880 → 0 ≤ ra M72 o0 8 i := (by have e9 := ((sA_c I58 J75 (I58.up h_o0) (by decide +kernel)) : sA [8] _ _ _) 8 rfl; rw [e9]; exact K68)
                have K90 : sA [6, 7, 8, 28] M0 M72 o0 := K69.trans (sA_c I58 J75 (I58.up h_o0) (by decide +kernel))
                have K91 : ∀ i, ra M72 o0 71 i = if i = (101 * x1.toInt + x2.toInt).toNat then 1 else ra M0 o0 71 i := (fun i => (congrFun (((sA_c I58 J75 (I58.up h_o0) (by decide +kernel)) : sA [71] _ _ _) 71 rfl) i).trans (K70 i))
                have h92 := f83.trans (p_tr_same K69 z65)
                clear z64 z65 z66 z67
                have q93 := J75.keep h_o0 (by decide) (K60 _ 13 0 _ rfl (K44 _ 13 0 _ q6))
                have q94 := J75.keep h_o0 (by decide) (K60 _ 13 32 _ rfl (K44 _ 13 32 _ q20))
                have q95 := J75.keep h_o0 (by decide) (K60 _ 13 1 _ rfl (K44 _ 13 1 _ q25))
                have q96 := J75.keep h_o0 (by decide) (K60 _ 13 71 _ rfl (K44 _ 13 71 _ q30))
                have t97 := J75.up t_a31
                have q98 := J75.keep h_o0 (by decide) q59
                refine mv_isub d_TrustDeskModel_account_105 ?_
                have b99 : (360 * x2 : Int32).toInt = (360 * x2.toInt) := mz_mul2 (by decide) rfl (by have := R81.1 1 _ _ rfl; have := R81.1 27 _ _ rfl; have := R81.1 32 _ _ rfl; have := R81.1 70 _ _ rfl; omega) (by have := R81.1 1 _ _ rfl; have := R81.1 27 _ _ rfl; have := R81.1 32 _ _ rfl; have := R81.1 70 _ _ rfl; omega)
                have b100 : ((360 * x2) + 359 : Int32).toInt = ((360 * x2.toInt) + 359) := mz_add2 b99 (by decide) (by have := R81.1 1 _ _ rfl; have := R81.1 27 _ _ rfl; have := R81.1 32 _ _ rfl; have := R81.1 70 _ _ rfl; omega) (by have := R81.1 1 _ _ rfl; have := R81.1 27 _ _ rfl; have := R81.1 32 _ _ rfl; have := R81.1 70 _ _ rfl; omega)
                have b101 : (v26 - ((360 * x2) + 359) : Int32).toInt = (v26.toInt - ((360 * x2.toInt) + 359)) := mz_sub2 rfl b100 (by have := R81.1 1 _ _ rfl; have := R81.1 27 _ _ rfl; have := R81.1 32 _ _ rfl; have := R81.1 70 _ _ rfl; omega) (by have := R81.1 1 _ _ rfl; have := R81.1 27 _ _ rfl; have := R81.1 32 _ _ rfl; have := R81.1 70 _ _ rfl; omega)
                have b102 : ((v26 - ((360 * x2) + 359)) - v80 : Int32).toInt = ((v26.toInt - ((360 * x2.toInt) + 359)) - v80.toInt) := mz_sub2 b101 rfl (by have := R81.1 1 _ _ rfl; have := R81.1 27 _ _ rfl; have := R81.1 32 _ _ rfl; have := R81.1 70 _ _ rfl; omega) (by have := R81.1 1 _ _ rfl; have := R81.1 27 _ _ rfl; have := R81.1 32 _ _ rfl; have := R81.1 70 _ _ rfl; omega)
                obtain ⟨v103, b104, _, _, _⟩ := mz_max9 0 ((v26 - ((360 * x2) + 359)) - v80)
                have : (0 : Int32).toInt = 0 := by decide
                refine mv_mmax (v := v103) d_TrustDeskModel_account_106 (mj_in1 (List.mem_of_getElem? (i := 1871) (by decide +kernel)) rfl) (Nat.le_of_ble_eq_true rfl) b104 ?_
                exact mv_iret d_TrustDeskModel_account_109 rfl (by first | rfl | decide) ⟨_, I76, _, rfl, R81, (Or.inr ⟨by omega, by omega, K91, by have e9 := h92; rw [show ((360 * x2) + 359 : Int32).toInt = 360 * x2.toInt + 359 from by omega, show ((3 : Int32).toInt).toNat = 3 from by decide] at e9; omega⟩)⟩
              · refine mv_iconst (v := (-1)) d_TrustDeskModel_account_58 (by decide) ?_
                exact mv_iret d_TrustDeskModel_account_59 rfl (by first | rfl | decide) ⟨_, I5, _, rfl, R8, (Or.inl ⟨by decide, by omega, z14, K17⟩)⟩
