/-! THE FACTS TOLD: what is known of one, by either way of looking it up -/
theorem ra_F {W W0 : Nat → Bool} {x x0 n n0 n1 F k : Nat} {T T0 T1 : tm_H} {M M0 M1 : mj_M} (I : tm_I tm_FT W0 x0 T0 M0 n0 T M n) (J : tm_I tm_FT W x T M n T1 M1 n1) (hF : T F = some (0, 5, 0)) (hk : k < 4) (hW : W (500 + k) = false) (hW2 : W (550 + k) = false) (i : Nat) : ra M1 F k i = ra M F k i := by
  obtain ⟨b, h1, h2⟩ : ∃ b : Nat, tm_at M F 5 k (.ref b) ∧ T b = some (1, 4400 + 8 * k, 300) := by
    rcases (show k = 0 ∨ k = 1 ∨ k = 2 ∨ k = 3 by omega) with rfl | rfl | rfl | rfl
    · exact tm_atR (z := (1, 4400, 300)) I hF rfl
    · exact tm_atR (z := (1, 4408, 300)) I hF rfl
    · exact tm_atR (z := (1, 4416, 300)) I hF rfl
    · exact tm_atR (z := (1, 4424, 300)) I hF rfl
  have h3 : tm_at M1 F 5 k (.ref b) := J.keep hF hW h1
  have h4 : M1 b = M b := J.2.2.2.2.2.2.1 b _ h2 (by show W ((4400 + 8 * k) / 8) = false; rw [show (4400 + 8 * k) / 8 = 550 + k from by omega]; exact hW2)
  unfold ra
  rw [tm_rr h3, tm_rr h1, h4]
section RFF
variable {g : mj_G} {l : Launch} {y : mj_Y} {d pc : Nat} {lv : List (Nat × Value)} {st : List Value} {M M0 : mj_M} {nx n0 kc ks x : Nat} {Q : Option Value → mj_M → Nat → Prop} {W : Nat → Bool} {T T0 : tm_H}
theorem tr_ialdF {F k a e N : Nat} {i : Int32} (I : tm_I tm_FT W x T0 M0 n0 T M nx) (hq : tm_at M F 5 k (.ref a)) (ta : T a = some (1, e, N)) (he : e % 8 = 0) (hd : decode y.2.1 pc = .ok (.iaload, 1)) (hin : vp_in i N) (kk : ∀ v : Int32, v.toInt = ra M F k i.toNatClampNeg → mj_V g l y d (pc + 1) lv (.int v :: st) M nx kc ks Q) : mj_V g l y d pc lv (.int i :: .ref a :: st) M nx kc ks Q := by
  obtain ⟨f, hm⟩ := tm_arrI I ta (by omega)
  have hm0 := hm
  rw [he] at hm
  exact mv_iald hd hm hin rfl (kk _ (by rw [ra_of hq hm0]; rfl))
theorem tr_iastF {F k a e N : Nat} {i v : Int32} (I : tm_I tm_FT W x T0 M0 n0 T M nx) (hF : T F = some (0, 5, 0)) (hq : tm_at M F 5 k (.ref a)) (ta : T a = some (1, e, N)) (he : e = 4400 + 8 * k) (hk : k < 4) (hW : W (e / 8) = true ∨ n0 ≤ a) (hd : decode y.2.1 pc = .ok (.iastore, 1)) (hin : vp_in i N) (kk : ∀ M1, tm_I tm_FT W x T0 M0 n0 T M1 nx → (∀ (b c k : Nat) (w : Value), tm_at M b c k w → tm_at M1 b c k w) → (∀ j, ra M1 F k j = if j = i.toNatClampNeg then v.toInt else ra M F k j) → (∀ q, q < 4 → q ≠ k → ∀ j, ra M1 F q j = ra M F q j) → mj_V g l y d (pc + 1) lv st M1 nx kc ks Q) : mj_V g l y d pc lv (.int v :: .int i :: .ref a :: st) M nx kc ks Q := by
  obtain ⟨f, hm⟩ := tm_arrI I ta (by omega)
  have hm0 := hm
  have he8 : e % 8 = 0 := by omega
  rw [he8] at hm
  have hFa : F ≠ a := fun h => by subst h; cases hF.symm.trans ta
  have hra : ∀ j, ra M F k j = (f j).toInt := fun j => by rw [ra_of hq hm0]; rfl
  refine mv_iast hd hm hin rfl (kk _ (I.ast tm_okF ta hW (tm_c1 (by omega) (by rw [mj_up_self, he8]))) (tm_at.ast hm0) (fun j => ?_) (fun q hq4 hqk j => ?_))
  · have h1 := tm_at.ast (c9 := .inl (0, N, .inl (upd f i.toNatClampNeg v))) hm0 _ _ _ _ hq
    rw [ra_of h1 (mj_up_self _ _ _) j, hra]
    show (upd f i.toNatClampNeg v j).toInt = _
    unfold upd
    by_cases h : j = i.toNatClampNeg
    · rw [if_pos h, if_pos h]
    · rw [if_neg h, if_neg h]
  · obtain ⟨b, h1, h2⟩ : ∃ b : Nat, tm_at M F 5 q (.ref b) ∧ T b = some (1, 4400 + 8 * q, 300) := by
      rcases (show q = 0 ∨ q = 1 ∨ q = 2 ∨ q = 3 by omega) with rfl | rfl | rfl | rfl
      · exact tm_atR (z := (1, 4400, 300)) I hF rfl
      · exact tm_atR (z := (1, 4408, 300)) I hF rfl
      · exact tm_atR (z := (1, 4416, 300)) I hF rfl
      · exact tm_atR (z := (1, 4424, 300)) I hF rfl
    have hba : b ≠ a := fun h => by
      subst h
      rw [ta] at h2
      cases h2
      omega
    have h3 := tm_at.ast (c9 := .inl (0, N, .inl (upd f i.toNatClampNeg v))) hm0 _ _ _ _ h1
    unfold ra
    rw [tm_rr h3, tm_rr h1, mj_up_ne _ _ hba]
end RFF
/-- what is known: nothing of the sort, or the latest year's last telling -/
def fq (K Y V D : Nat → Int) (n x1 x2 x3 v : Int) : Prop := (v = 0 ∧ ∀ j : Nat, (j : Int) < n → ¬ (K j = x1 ∧ Y j ≤ x2 ∧ D j ≤ x3)) ∨ ∃ b : Nat, (b : Int) < n ∧ (K b = x1 ∧ Y b ≤ x2 ∧ D b ≤ x3) ∧ (∀ j : Nat, (j : Int) < n → (K j = x1 ∧ Y j ≤ x2 ∧ D j ≤ x3) → Y j < Y b ∨ (Y j = Y b ∧ j ≤ b)) ∧ v = V b
def fl (K Y V D : Nat → Int) (i x1 x2 x3 best v : Int) : Prop := (best = -1 ∧ v = 0 ∧ ∀ j : Nat, (j : Int) < i → ¬ (K j = x1 ∧ Y j ≤ x2 ∧ D j ≤ x3)) ∨ ∃ b : Nat, (b : Int) < i ∧ (K b = x1 ∧ Y b ≤ x2 ∧ D b ≤ x3) ∧ (∀ j : Nat, (j : Int) < i → (K j = x1 ∧ Y j ≤ x2 ∧ D j ≤ x3) → Y j < Y b ∨ (Y j = Y b ∧ j ≤ b)) ∧ best = Y b ∧ v = V b
def rl (K Y D : Nat → Int) (n k x1 x2 x3 best : Int) : Prop := (best = -1 ∧ ∀ j : Nat, k < (j : Int) → (j : Int) < n → ¬ (K j = x1 ∧ Y j ≤ x2 ∧ D j ≤ x3)) ∨ ∃ b : Nat, best = (b : Int) ∧ k < (b : Int) ∧ (b : Int) < n ∧ (K b = x1 ∧ Y b ≤ x2 ∧ D b ≤ x3) ∧ ∀ j : Nat, k < (j : Int) → (j : Int) < n → (K j = x1 ∧ Y j ≤ x2 ∧ D j ≤ x3) → Y j < Y b ∨ (Y j = Y b ∧ j ≤ b)
section FQ
variable {K Y V D K' Y' V' D' : Nat → Int} {n i i1 k k1 x1 x2 x3 best best1 v v1 : Int}
theorem fq.fn (h : fq K Y V D n x1 x2 x3 v) (h1 : fq K' Y' V' D' n x1 x2 x3 v1) (e : ∀ j : Nat, (j : Int) < n → K j = K' j ∧ Y j = Y' j ∧ V j = V' j ∧ D j = D' j) : v = v1 := by
  rcases h with ⟨h, h2⟩ | ⟨b, hb, m, hm, h⟩
  · rcases h1 with ⟨h1, -⟩ | ⟨b1, hb1, m1, -, -⟩
    · rw [h, h1]
    · obtain ⟨e1, e2, -, e4⟩ := e b1 hb1
      exact absurd ⟨by omega, by omega, by omega⟩ (h2 b1 hb1)
  · obtain ⟨e1, e2, e3, e4⟩ := e b hb
    rcases h1 with ⟨-, h2⟩ | ⟨b1, hb1, m1, hm1, h1⟩
    · exact absurd ⟨by omega, by omega, by omega⟩ (h2 b hb)
    · obtain ⟨d1, d2, d3, d4⟩ := e b1 hb1
      have q1 := hm b1 hb1 ⟨by omega, by omega, by omega⟩
      have q2 := hm1 b hb ⟨by omega, by omega, by omega⟩
      have hbb : b = b1 := by omega
      subst hbb
      rw [h, h1, e3]
theorem fl.start : fl K Y V D (0 : Int32).toInt x1 x2 x3 (-1 : Int32).toInt (0 : Int32).toInt := Or.inl ⟨by decide, by decide, fun j h => by rw [mz_0] at h; omega⟩
theorem fl.yes (h : fl K Y V D i x1 x2 x3 best v) (h0 : 0 ≤ i) (e : i1 = i + 1) (m1 : K i.toNat = x1) (m2 : Y i.toNat ≤ x2) (m3 : D i.toNat ≤ x3) (m4 : best ≤ Y i.toNat) (e1 : best1 = Y i.toNat) (e2 : v1 = V i.toNat) : fl K Y V D i1 x1 x2 x3 best1 v1 := by
  subst e
  refine Or.inr ⟨i.toNat, by omega, ⟨m1, m2, m3⟩, fun j hj m => ?_, e1, e2⟩
  by_cases hji : (j : Int) = i
  · have : j = i.toNat := by omega
    subst this
    exact Or.inr ⟨rfl, Nat.le_refl _⟩
  · rcases h with ⟨-, -, h⟩ | ⟨b, hb, -, hm, h, -⟩
    · exact absurd m (h j (by omega))
    · have := hm j (by omega) m
      omega
theorem fl.no (h : fl K Y V D i x1 x2 x3 best v) (h0 : 0 ≤ i) (e : i1 = i + 1) (hy : 0 ≤ Y i.toNat) (hno : K i.toNat = x1 → Y i.toNat ≤ x2 → D i.toNat ≤ x3 → Y i.toNat < best) : fl K Y V D i1 x1 x2 x3 best v := by
  subst e
  rcases h with ⟨h1, h2, h⟩ | ⟨b, hb, m, hm, h1, h2⟩
  · refine Or.inl ⟨h1, h2, fun j hj mj => ?_⟩
    by_cases hji : (j : Int) = i
    · have : j = i.toNat := by omega
      subst this
      have := hno mj.1 mj.2.1 mj.2.2
      omega
    · exact h j (by omega) mj
  · refine Or.inr ⟨b, by omega, m, fun j hj mj => ?_, h1, h2⟩
    by_cases hji : (j : Int) = i
    · have : j = i.toNat := by omega
      subst this
      have := hno mj.1 mj.2.1 mj.2.2
      exact Or.inl (by omega)
    · exact hm j (by omega) mj
theorem fl.fin (h : fl K Y V D i x1 x2 x3 best v) (hle : i ≤ n) (hc : ∀ j : Nat, i ≤ (j : Int) → (j : Int) < n → ¬ D j ≤ x3) : fq K Y V D n x1 x2 x3 v := by
  rcases h with ⟨-, h2, h⟩ | ⟨b, hb, m, hm, -, h2⟩
  · refine Or.inl ⟨h2, fun j hj mj => ?_⟩
    by_cases hji : (j : Int) < i
    · exact h j hji mj
    · exact hc j (by omega) hj mj.2.2
  · refine Or.inr ⟨b, by omega, m, fun j hj mj => ?_, h2⟩
    by_cases hji : (j : Int) < i
    · exact hm j hji mj
    · exact absurd mj.2.2 (hc j (by omega) hj)
theorem rl.start (e : k = n - 1) (e1 : best = -1) : rl K Y D n k x1 x2 x3 best := Or.inl ⟨e1, fun j h h1 => by omega⟩
theorem rl.no (h : rl K Y D n k x1 x2 x3 best) (h0 : 0 ≤ k) (e : k1 = k - 1) (hno : K k.toNat = x1 → Y k.toNat ≤ x2 → D k.toNat ≤ x3 → best ≠ -1 ∧ Y k.toNat ≤ Y best.toNat) : rl K Y D n k1 x1 x2 x3 best := by
  subst e
  rcases h with ⟨h1, h⟩ | ⟨b, h1, hk, hb, m, hm⟩
  · refine Or.inl ⟨h1, fun j hj hn mj => ?_⟩
    by_cases hji : (j : Int) = k
    · have : j = k.toNat := by omega
      subst this
      exact (hno mj.1 mj.2.1 mj.2.2).1 h1
    · exact h j (by omega) hn mj
  · refine Or.inr ⟨b, h1, by omega, hb, m, fun j hj hn mj => ?_⟩
    by_cases hji : (j : Int) = k
    · have : j = k.toNat := by omega
      subst this
      have h9 := (hno mj.1 mj.2.1 mj.2.2).2
      rw [show best.toNat = b from by omega] at h9
      omega
    · exact hm j (by omega) hn mj
theorem rl.take (h : rl K Y D n k x1 x2 x3 best) (h0 : 0 ≤ k) (hn : k < n) (e : k1 = k - 1) (e1 : best1 = k) (m1 : K k.toNat = x1) (m2 : Y k.toNat ≤ x2) (m3 : D k.toNat ≤ x3) (m4 : best = -1 ∨ Y best.toNat < Y k.toNat) : rl K Y D n k1 x1 x2 x3 best1 := by
  subst e
  refine Or.inr ⟨k.toNat, by omega, by omega, by omega, ⟨m1, m2, m3⟩, fun j hj hn9 mj => ?_⟩
  by_cases hji : (j : Int) = k
  · have : j = k.toNat := by omega
    subst this
    exact Or.inr ⟨rfl, Nat.le_refl _⟩
  · rcases h with ⟨h1, h⟩ | ⟨b, h1, hk, hb, m, hm⟩
    · exact absurd mj (h j (by omega) hn9)
    · have h9 := hm j (by omega) hn9 mj
      rcases m4 with m4 | m4
      · omega
      · rw [show best.toNat = b from by omega] at m4
        omega
theorem rl.fin0 (h : rl K Y D n k x1 x2 x3 best) (hk : k < 0) (e : best = -1) (hv : v = 0) : fq K Y V D n x1 x2 x3 v := by
  rcases h with ⟨-, h⟩ | ⟨b, h1, -⟩
  · exact Or.inl ⟨hv, fun j hj => h j (by omega) hj⟩
  · omega
theorem rl.fin1 (h : rl K Y D n k x1 x2 x3 best) (hk : k < 0) (e : best ≠ -1) (hv : v = V best.toNat) : fq K Y V D n x1 x2 x3 v := by
  rcases h with ⟨h1, -⟩ | ⟨b, h1, -, hb, m, hm⟩
  · exact absurd h1 e
  · refine Or.inr ⟨b, hb, m, fun j hj mj => hm j (by omega) hj mj, ?_⟩
    rw [hv, show best.toNat = b from by omega]
end FQ
/-- the reference's row of facts -/
def f4 (M : mj_M) (o q j : Nat) : Int := ra M o 3 (4 * j + q)
theorem ra_P {M M1 : mj_M} {F c k b : Nat} (h : tm_at M F c k (.ref b)) (h1 : tm_at M1 F c k (.ref b)) (e : M1 b = M b) (i : Nat) : ra M1 F k i = ra M F k i := by
  unfold ra
  rw [tm_rr h1, tm_rr h, e]
def w_TrustDesk_fact_x : List Nat := [504, 550, 551, 552, 553]
theorem tc_TrustDesk_fact_x {g : mj_G} {l : Launch} {d : Nat} {T0 : tm_H} {M0 : mj_M} {n0 x9 : Nat} {o0 : Nat} {x1 : Int32} {x2 : Int32} {x3 : Int32} (h_o0 : T0 o0 = some (0, 12, 0)) {F : Nat} {c t : Int32} (h_F : T0 F = some (0, 5, 0)) (q_F : tm_at M0 o0 12 0 (.ref F)) (yc : tm_at M0 F 5 4 (.int c)) (yt : tm_at M0 o0 12 12 (.int t)) (hc : 0 ≤ c.toInt ∧ c.toInt ≤ 300) (I0 : tm_I tm_FT (tm_in w_TrustDesk_fact_x) x9 T0 M0 n0 T0 M0 n0) : mj_Met g l kY_TrustDesk_fact (d + 1) [.ref o0, .int x1, .int x2, .int x3] M0 n0 0 0 (tm_Q tm_FT (tm_in w_TrustDesk_fact_x) x9 T0 M0 n0 (fun r _ M => ∃ v : Int32, r = some (.int v) ∧ 0 ≤ v.toInt ∧ v.toInt ≤ 1 ∧ ((v = 0 ∧ ¬ (0 ≤ x1.toInt ∧ x1.toInt ≤ 7 ∧ 0 ≤ x2.toInt ∧ x2.toInt ≤ 100 ∧ 0 ≤ x3.toInt ∧ x3.toInt ≤ 9999 ∧ c.toInt ≠ 300) ∧ tm_at M F 5 4 (.int c) ∧ ∀ k, k < 4 → ∀ j, ra M F k j = ra M0 F k j) ∨ (v = 1 ∧ (0 ≤ x1.toInt ∧ x1.toInt ≤ 7 ∧ 0 ≤ x2.toInt ∧ x2.toInt ≤ 100 ∧ 0 ≤ x3.toInt ∧ x3.toInt ≤ 9999 ∧ c.toInt ≠ 300) ∧ tm_at M F 5 4 (.int (c + 1)) ∧ (∀ j, ra M F 0 j = if j = c.toNatClampNeg then x1.toInt else ra M0 F 0 j) ∧ (∀ j, ra M F 1 j = if j = c.toNatClampNeg then x2.toInt else ra M0 F 1 j) ∧ (∀ j, ra M F 2 j = if j = c.toNatClampNeg then x3.toInt else ra M0 F 2 j) ∧ (∀ j, ra M F 3 j = if j = c.toNatClampNeg then t.toInt else ra M0 F 3 j))))) := by
  refine mj_enter (by decide) (Nat.le_of_ble_eq_true rfl) ?_
  refine mv_iload_n d_TrustDesk_fact_0 rfl rfl ?_
  refine mv_callS (kc1 := 0) (ks1 := 0) (kc' := 0) (ks' := 0) (As := [.int x1]) (st9 := [.int x1]) d_TrustDesk_fact_1 lS_TrustDesk_66 (mj_enter (by decide) (Nat.le_of_ble_eq_true rfl) ?_) rfl (Nat.le_of_ble_eq_true rfl) (Nat.le_of_ble_eq_true rfl) (Nat.le_of_ble_eq_true rfl) (hst := rfl) (fun _ _ _ h => h)
  refine mv_iload_n d_TrustDesk_isFact_0 rfl rfl ?_
  have := mz_hi x1
  refine mv_if_ltZ (tgt := 14) (a := x1.toInt) d_TrustDesk_isFact_1 (by decide) rfl (fun b1 => ?_) (fun b1 => ?_)
  · refine mv_iconst (v := 0) d_TrustDesk_isFact_14 (by decide) ?_
    refine mv_iret d_TrustDesk_isFact_15 rfl (by decide) ?_
    refine mv_if_eq_t (tgt := 25) d_TrustDesk_fact_4 (by decide) (by decide) ?_
    refine mv_iconst (v := 0) d_TrustDesk_fact_25 (by decide) ?_
    exact mv_iret d_TrustDesk_fact_26 rfl (by decide) ⟨_, I0, _, rfl, by decide, by decide, Or.inl ⟨rfl, by omega, yc, fun _ _ _ => rfl⟩⟩
  · refine mv_iload_n d_TrustDesk_isFact_4 rfl rfl ?_
    refine mv_bipush (v := 8) d_TrustDesk_isFact_5 (by decide) ?_
    have := mz_hi x1
    refine mv_icmp_geZ (tgt := 14) (a := x1.toInt) (b := 8) d_TrustDesk_isFact_7 (by decide) rfl (by decide) (fun b2 => ?_) (fun b2 => ?_)
    · refine mv_iconst (v := 0) d_TrustDesk_isFact_14 (by decide) ?_
      refine mv_iret d_TrustDesk_isFact_15 rfl (by decide) ?_
      refine mv_if_eq_t (tgt := 25) d_TrustDesk_fact_4 (by decide) (by decide) ?_
      refine mv_iconst (v := 0) d_TrustDesk_fact_25 (by decide) ?_
      exact mv_iret d_TrustDesk_fact_26 rfl (by decide) ⟨_, I0, _, rfl, by decide, by decide, Or.inl ⟨rfl, by omega, yc, fun _ _ _ => rfl⟩⟩
    · refine mv_iconst (v := 1) d_TrustDesk_isFact_10 (by decide) ?_
      refine mv_goto (tgt := 15) d_TrustDesk_isFact_11 (by decide) ?_
      refine mv_iret d_TrustDesk_isFact_15 rfl (by decide) ?_
      refine mv_if_eq_f (tgt := 25) d_TrustDesk_fact_4 (by decide) (by decide) ?_
      refine mv_iload_n d_TrustDesk_fact_7 rfl rfl ?_
      refine mv_callS (kc1 := 0) (ks1 := 0) (kc' := 0) (ks' := 0) (As := [.int x2]) (st9 := [.int x2]) d_TrustDesk_fact_8 lS_TrustDesk_70 (mj_enter (by decide) (Nat.le_of_ble_eq_true rfl) ?_) rfl (Nat.le_of_ble_eq_true rfl) (Nat.le_of_ble_eq_true rfl) (Nat.le_of_ble_eq_true rfl) (hst := rfl) (fun _ _ _ h => h)
      refine mv_iload_n d_TrustDesk_isYear_0 rfl rfl ?_
      have := mz_hi x2
      refine mv_if_ltZ (tgt := 14) (a := x2.toInt) d_TrustDesk_isYear_1 (by decide) rfl (fun b3 => ?_) (fun b3 => ?_)
      · refine mv_iconst (v := 0) d_TrustDesk_isYear_14 (by decide) ?_
        refine mv_iret d_TrustDesk_isYear_15 rfl (by decide) ?_
        refine mv_if_eq_t (tgt := 25) d_TrustDesk_fact_11 (by decide) (by decide) ?_
        refine mv_iconst (v := 0) d_TrustDesk_fact_25 (by decide) ?_
        exact mv_iret d_TrustDesk_fact_26 rfl (by decide) ⟨_, I0, _, rfl, by decide, by decide, Or.inl ⟨rfl, by omega, yc, fun _ _ _ => rfl⟩⟩
      · refine mv_iload_n d_TrustDesk_isYear_4 rfl rfl ?_
        refine mv_bipush (v := 100) d_TrustDesk_isYear_5 (by decide) ?_
        have := mz_hi x2
        refine mv_icmp_gtZ (tgt := 14) (a := x2.toInt) (b := 100) d_TrustDesk_isYear_7 (by decide) rfl (by decide) (fun b4 => ?_) (fun b4 => ?_)
        · refine mv_iconst (v := 0) d_TrustDesk_isYear_14 (by decide) ?_
          refine mv_iret d_TrustDesk_isYear_15 rfl (by decide) ?_
          refine mv_if_eq_t (tgt := 25) d_TrustDesk_fact_11 (by decide) (by decide) ?_
          refine mv_iconst (v := 0) d_TrustDesk_fact_25 (by decide) ?_
          exact mv_iret d_TrustDesk_fact_26 rfl (by decide) ⟨_, I0, _, rfl, by decide, by decide, Or.inl ⟨rfl, by omega, yc, fun _ _ _ => rfl⟩⟩
        · refine mv_iconst (v := 1) d_TrustDesk_isYear_10 (by decide) ?_
          refine mv_goto (tgt := 15) d_TrustDesk_isYear_11 (by decide) ?_
          refine mv_iret d_TrustDesk_isYear_15 rfl (by decide) ?_
          refine mv_if_eq_f (tgt := 25) d_TrustDesk_fact_11 (by decide) (by decide) ?_
          refine mv_iload_n d_TrustDesk_fact_14 rfl rfl ?_
          have := mz_hi x3
          refine mv_if_ltZ (tgt := 25) (a := x3.toInt) d_TrustDesk_fact_15 (by decide) rfl (fun b5 => ?_) (fun b5 => ?_)
          · refine mv_iconst (v := 0) d_TrustDesk_fact_25 (by decide) ?_
            exact mv_iret d_TrustDesk_fact_26 rfl (by decide) ⟨_, I0, _, rfl, by decide, by decide, Or.inl ⟨rfl, by omega, yc, fun _ _ _ => rfl⟩⟩
          · refine mv_iload_n d_TrustDesk_fact_18 rfl rfl ?_
            refine mv_sipush (v := 9999) d_TrustDesk_fact_19 (by decide) ?_
            have := mz_hi x3
            refine mv_icmp_leZ (tgt := 27) (a := x3.toInt) (b := 9999) d_TrustDesk_fact_22 (by decide) rfl (by decide) (fun b6 => ?_) (fun b6 => ?_)
            · refine mv_aload_n d_TrustDesk_fact_27 rfl rfl ?_
              refine tr_getK (k := 0) q_F d_TrustDesk_fact_28 f_TrustDesk_10_12 ?_
              refine mv_iload_n d_TrustDesk_fact_31 rfl rfl ?_
              refine mv_iload_n d_TrustDesk_fact_32 rfl rfl ?_
              refine mv_iload_n d_TrustDesk_fact_33 rfl rfl ?_
              refine mv_aload_n d_TrustDesk_fact_34 rfl rfl ?_
              refine tr_getK (k := 12) yt d_TrustDesk_fact_35 f_TrustDesk_73_12 ?_
              obtain ⟨_, b7, -⟩ := I0.1 _ _ h_F
              refine mv_callV (kc1 := 0) (ks1 := 0) (kc' := 0) (ks' := 0) (As := [.int x1, .int x2, .int x3, .int t]) (st9 := [.int t, .int x3, .int x2, .int x1, .ref F]) d_TrustDesk_fact_38 lV_TrustDesk_77 b7 rfl (mj_enter (by decide) (Nat.le_of_ble_eq_true rfl) ?_) rfl (Nat.le_of_ble_eq_true rfl) (Nat.le_of_ble_eq_true rfl) (Nat.le_of_ble_eq_true rfl) (hst := rfl) (fun _ _ _ h => h)
              refine mv_aload_n d_Facts_tell_0 rfl rfl ?_
              refine tr_getK (k := 4) yc d_Facts_tell_1 f_Facts_24_5 ?_
              refine mv_istore (lv' := [(5, .int c), (0, .ref F), (1, .int x1), (2, .int x2), (3, .int x3), (4, .int t)]) d_Facts_tell_4 (by decide) rfl ?_
              refine mv_iload d_Facts_tell_6 rfl ?_
              have := mz_hi c
              refine mv_if_ltZ (tgt := 19) (a := c.toInt) d_Facts_tell_8 (by decide) rfl (fun b8 => ?_) (fun b8 => ?_)
              · refine mv_iconst (v := 0) d_Facts_tell_19 (by decide) ?_
                refine mv_iret d_Facts_tell_20 rfl (by decide) ?_
                exact mv_iret d_TrustDesk_fact_41 rfl (by decide) ⟨_, I0, _, rfl, by decide, by decide, Or.inl ⟨rfl, by omega, yc, fun _ _ _ => rfl⟩⟩
              · refine mv_iload d_Facts_tell_11 rfl ?_
                refine mv_sipush (v := 300) d_Facts_tell_13 (by decide) ?_
                have := mz_hi c
                refine mv_icmp_ltZ (tgt := 21) (a := c.toInt) (b := 300) d_Facts_tell_16 (by decide) rfl (by decide) (fun b9 => ?_) (fun b9 => ?_)
                · refine mv_aload_n d_Facts_tell_21 rfl rfl ?_
                  obtain ⟨a11, q10, t_a11⟩ := tm_atR I0 h_F (k := 0) rfl
                  refine tr_getK q10 d_Facts_tell_22 f_Facts_9_5 ?_
                  refine mv_iload d_Facts_tell_25 rfl ?_
                  refine mv_iload_n d_Facts_tell_27 rfl rfl ?_
                  refine tr_iastF (F := F) (k := 0) I0 (I0.up h_F) q10 t_a11 (by decide) (by decide) (Or.inl (by decide)) d_Facts_tell_28 (vp_in_iff.mpr (by omega)) (fun M12 I13 K14 E15 A16 => ?_)
                  have R17 : ∀ j, ra M12 F 0 j = if j = c.toNatClampNeg then x1.toInt else ra M0 F 0 j := fun j => E15 j
                  have R18 : ∀ j, ra M12 F 1 j = ra M0 F 1 j := fun j => A16 1 (by decide) (by decide) j
                  have R19 : ∀ j, ra M12 F 2 j = ra M0 F 2 j := fun j => A16 2 (by decide) (by decide) j
                  have R20 : ∀ j, ra M12 F 3 j = ra M0 F 3 j := fun j => A16 3 (by decide) (by decide) j
                  refine mv_aload_n d_Facts_tell_29 rfl rfl ?_
                  obtain ⟨a22, q21, t_a22⟩ := tm_atR I13 h_F (k := 1) rfl
                  refine tr_getK q21 d_Facts_tell_30 f_Facts_15_5 ?_
                  refine mv_iload d_Facts_tell_33 rfl ?_
                  refine mv_iload_n d_Facts_tell_35 rfl rfl ?_
                  refine tr_iastF (F := F) (k := 1) I13 (I13.up h_F) q21 t_a22 (by decide) (by decide) (Or.inl (by decide)) d_Facts_tell_36 (vp_in_iff.mpr (by omega)) (fun M23 I24 K25 E26 A27 => ?_)
                  have R28 : ∀ j, ra M23 F 0 j = if j = c.toNatClampNeg then x1.toInt else ra M0 F 0 j := fun j => (A27 0 (by decide) (by decide) j).trans (R17 j)
                  have R29 : ∀ j, ra M23 F 1 j = if j = c.toNatClampNeg then x2.toInt else ra M0 F 1 j := fun j => (E26 j).trans (by rw [R18 j])
                  have R30 : ∀ j, ra M23 F 2 j = ra M0 F 2 j := fun j => (A27 2 (by decide) (by decide) j).trans (R19 j)
                  have R31 : ∀ j, ra M23 F 3 j = ra M0 F 3 j := fun j => (A27 3 (by decide) (by decide) j).trans (R20 j)
                  refine mv_aload_n d_Facts_tell_37 rfl rfl ?_
                  obtain ⟨a33, q32, t_a33⟩ := tm_atR I24 h_F (k := 2) rfl
                  refine tr_getK q32 d_Facts_tell_38 f_Facts_18_5 ?_
                  refine mv_iload d_Facts_tell_41 rfl ?_
                  refine mv_iload_n d_Facts_tell_43 rfl rfl ?_
                  refine tr_iastF (F := F) (k := 2) I24 (I24.up h_F) q32 t_a33 (by decide) (by decide) (Or.inl (by decide)) d_Facts_tell_44 (vp_in_iff.mpr (by omega)) (fun M34 I35 K36 E37 A38 => ?_)
                  have R39 : ∀ j, ra M34 F 0 j = if j = c.toNatClampNeg then x1.toInt else ra M0 F 0 j := fun j => (A38 0 (by decide) (by decide) j).trans (R28 j)
                  have R40 : ∀ j, ra M34 F 1 j = if j = c.toNatClampNeg then x2.toInt else ra M0 F 1 j := fun j => (A38 1 (by decide) (by decide) j).trans (R29 j)
                  have R41 : ∀ j, ra M34 F 2 j = if j = c.toNatClampNeg then x3.toInt else ra M0 F 2 j := fun j => (E37 j).trans (by rw [R30 j])
                  have R42 : ∀ j, ra M34 F 3 j = ra M0 F 3 j := fun j => (A38 3 (by decide) (by decide) j).trans (R31 j)
                  refine mv_aload_n d_Facts_tell_45 rfl rfl ?_
                  obtain ⟨a44, q43, t_a44⟩ := tm_atR I35 h_F (k := 3) rfl
                  refine tr_getK q43 d_Facts_tell_46 f_Facts_21_5 ?_
                  refine mv_iload d_Facts_tell_49 rfl ?_
                  refine mv_iload d_Facts_tell_51 rfl ?_
                  refine tr_iastF (F := F) (k := 3) I35 (I35.up h_F) q43 t_a44 (by decide) (by decide) (Or.inl (by decide)) d_Facts_tell_53 (vp_in_iff.mpr (by omega)) (fun M45 I46 K47 E48 A49 => ?_)
                  have R50 : ∀ j, ra M45 F 0 j = if j = c.toNatClampNeg then x1.toInt else ra M0 F 0 j := fun j => (A49 0 (by decide) (by decide) j).trans (R39 j)
                  have R51 : ∀ j, ra M45 F 1 j = if j = c.toNatClampNeg then x2.toInt else ra M0 F 1 j := fun j => (A49 1 (by decide) (by decide) j).trans (R40 j)
                  have R52 : ∀ j, ra M45 F 2 j = if j = c.toNatClampNeg then x3.toInt else ra M0 F 2 j := fun j => (A49 2 (by decide) (by decide) j).trans (R41 j)
                  have R53 : ∀ j, ra M45 F 3 j = if j = c.toNatClampNeg then t.toInt else ra M0 F 3 j := fun j => (E48 j).trans (by rw [R42 j])
                  refine mv_aload_n d_Facts_tell_54 rfl rfl ?_
                  refine mv_dup d_Facts_tell_55 rfl ?_
                  refine tr_getK (k := 4) (K47 _ 5 4 _ (K36 _ 5 4 _ (K25 _ 5 4 _ (K14 _ 5 4 _ yc)))) d_Facts_tell_56 f_Facts_24_5 ?_
                  refine mv_iconst (v := 1) d_Facts_tell_59 (by decide) ?_
                  refine mv_iadd d_Facts_tell_60 ?_
                  refine tr_putKM tm_okF I46 h_F (k := 4) rfl ⟨_, rfl⟩ (Or.inl (by decide)) d_Facts_tell_61 p_Facts_24_5 rfl rfl (fun M54 I55 q56 K57 K57M => ?_)
                  have R58 : ∀ j, ra M54 F 0 j = if j = c.toNatClampNeg then x1.toInt else ra M0 F 0 j := fun j => (ra_P (K47 _ 5 0 _ (K36 _ 5 0 _ (K25 _ 5 0 _ (K14 _ 5 0 _ q10)))) (K57 _ 5 0 _ rfl (K47 _ 5 0 _ (K36 _ 5 0 _ (K25 _ 5 0 _ (K14 _ 5 0 _ q10))))) (K57M _ (tm_dif t_a11 h_F rfl)) j).trans (R50 j)
                  have R59 : ∀ j, ra M54 F 1 j = if j = c.toNatClampNeg then x2.toInt else ra M0 F 1 j := fun j => (ra_P (K47 _ 5 1 _ (K36 _ 5 1 _ (K25 _ 5 1 _ q21))) (K57 _ 5 1 _ rfl (K47 _ 5 1 _ (K36 _ 5 1 _ (K25 _ 5 1 _ q21)))) (K57M _ (tm_dif t_a22 h_F rfl)) j).trans (R51 j)
                  have R60 : ∀ j, ra M54 F 2 j = if j = c.toNatClampNeg then x3.toInt else ra M0 F 2 j := fun j => (ra_P (K47 _ 5 2 _ (K36 _ 5 2 _ q32)) (K57 _ 5 2 _ rfl (K47 _ 5 2 _ (K36 _ 5 2 _ q32))) (K57M _ (tm_dif t_a33 h_F rfl)) j).trans (R52 j)
                  have R61 : ∀ j, ra M54 F 3 j = if j = c.toNatClampNeg then t.toInt else ra M0 F 3 j := fun j => (ra_P (K47 _ 5 3 _ q43) (K57 _ 5 3 _ rfl (K47 _ 5 3 _ q43)) (K57M _ (tm_dif t_a44 h_F rfl)) j).trans (R53 j)
                  refine mv_iconst (v := 1) d_Facts_tell_64 (by decide) ?_
                  refine mv_iret d_Facts_tell_65 rfl (by decide) ?_
                  exact mv_iret d_TrustDesk_fact_41 rfl (by decide) ⟨_, I55, _, rfl, by decide, by decide, Or.inr ⟨rfl, by omega, q56, R58, R59, R60, R61⟩⟩
                · refine mv_iconst (v := 0) d_Facts_tell_19 (by decide) ?_
                  refine mv_iret d_Facts_tell_20 rfl (by decide) ?_
                  exact mv_iret d_TrustDesk_fact_41 rfl (by decide) ⟨_, I0, _, rfl, by decide, by decide, Or.inl ⟨rfl, by omega, yc, fun _ _ _ => rfl⟩⟩
            · refine mv_iconst (v := 0) d_TrustDesk_fact_25 (by decide) ?_
              exact mv_iret d_TrustDesk_fact_26 rfl (by decide) ⟨_, I0, _, rfl, by decide, by decide, Or.inl ⟨rfl, by omega, yc, fun _ _ _ => rfl⟩⟩
def w_Facts_asKnown_x : List Nat := []
theorem tc_Facts_asKnown_x {g : mj_G} {l : Launch} {d : Nat} {T0 : tm_H} {M0 : mj_M} {n0 x9 : Nat} {o0 : Nat} {x1 : Int32} {x2 : Int32} {x3 : Int32} (h_o0 : T0 o0 = some (0, 5, 0)) {c : Int32} (yc : tm_at M0 o0 5 4 (.int c)) (hc : 0 ≤ c.toInt ∧ c.toInt ≤ 300) (hY : ∀ i : Nat, (i : Int) < c.toInt → 0 ≤ ra M0 o0 1 i) (hs : ∀ i j : Nat, i ≤ j → (j : Int) < c.toInt → ra M0 o0 3 i ≤ ra M0 o0 3 j) (I0 : tm_I tm_FT (tm_in w_Facts_asKnown_x) x9 T0 M0 n0 T0 M0 n0) : mj_Met g l kY_Facts_asKnown d [.ref o0, .int x1, .int x2, .int x3] M0 n0 0 0 (tm_Q tm_FT (tm_in w_Facts_asKnown_x) x9 T0 M0 n0 (fun r _ _ => ∃ v : Int32, r = some (.int v) ∧ fq (ra M0 o0 0) (ra M0 o0 1) (ra M0 o0 2) (ra M0 o0 3) c.toInt x1.toInt x2.toInt x3.toInt v.toInt)) := by
  refine mj_enter (by decide) (Nat.le_of_ble_eq_true rfl) ?_
  refine mv_iconst (v := (-1)) d_Facts_asKnown_0 (by decide) ?_
  refine mv_istore (lv' := [(4, .int (-1)), (0, .ref o0), (1, .int x1), (2, .int x2), (3, .int x3)]) d_Facts_asKnown_1 (by decide) rfl ?_
  refine mv_iconst (v := 0) d_Facts_asKnown_3 (by decide) ?_
  refine mv_istore (lv' := [(5, .int 0), (4, .int (-1)), (0, .ref o0), (1, .int x1), (2, .int x2), (3, .int x3)]) d_Facts_asKnown_4 (by decide) rfl ?_
  refine mv_iconst (v := 0) d_Facts_asKnown_6 (by decide) ?_
  refine mv_istore (lv' := [(6, .int 0), (5, .int 0), (4, .int (-1)), (0, .ref o0), (1, .int x1), (2, .int x2), (3, .int x3)]) d_Facts_asKnown_7 (by decide) rfl ?_
  have L9_1 : ∀ (k : Nat) (i6_1 : Int32) (i5_1 : Int32) (i4_1 : Int32) (T_1 : tm_H) (M_1 : mj_M) (n_1 : Nat), tm_I tm_FT (tm_in w_Facts_asKnown_x) x9 T0 M0 n0 T_1 M_1 n_1 → T_1 o0 = some (0, 5, 0) → 0 ≤ i6_1.toInt → i6_1.toInt ≤ c.toInt → fl (ra M0 o0 0) (ra M0 o0 1) (ra M0 o0 2) (ra M0 o0 3) i6_1.toInt x1.toInt x2.toInt x3.toInt i4_1.toInt i5_1.toInt → tm_at M_1 o0 5 4 (.int c) → 2147483647 - i6_1.toInt < (k : Int) → mj_V g l kY_Facts_asKnown d 9 [(6, .int i6_1), (5, .int i5_1), (4, .int i4_1), (0, .ref o0), (1, .int x1), (2, .int x2), (3, .int x3)] [] M_1 n_1 0 0 (tm_Q tm_FT (tm_in w_Facts_asKnown_x) x9 T0 M0 n0 (fun r _ _ => ∃ v : Int32, r = some (.int v) ∧ fq (ra M0 o0 0) (ra M0 o0 1) (ra M0 o0 2) (ra M0 o0 3) c.toInt x1.toInt x2.toInt x3.toInt v.toInt)) := by
    intro k1
    induction k1 with
    | zero =>
      intro i6_1 i5_1 i4_1 T_1 M_1 n_1 I_1 h_q0_1 iv0_1 iv1_1 iv2_1 kp0_1 hk1
      have := mz_hi i6_1
      omega
    | succ k1 ih1 =>
      intro i6_1 i5_1 i4_1 T_1 M_1 n_1 I_1 h_q0_1 iv0_1 iv1_1 iv2_1 kp0_1 hk1
      refine mv_iload d_Facts_asKnown_9 rfl ?_
      refine mv_aload_n d_Facts_asKnown_11 rfl rfl ?_
      refine tr_getK (k := 4) kp0_1 d_Facts_asKnown_12 f_Facts_24_5 ?_
      have := mz_hi i6_1
      have := mz_hi c
      refine mv_icmp_geZ (tgt := 95) (a := i6_1.toInt) (b := c.toInt) d_Facts_asKnown_15 (by decide) rfl rfl (fun b2 => ?_) (fun b2 => ?_)
      · refine mv_iload d_Facts_asKnown_95 rfl ?_
        exact mv_iret d_Facts_asKnown_97 rfl (by first | rfl | decide) ⟨_, I_1, _, rfl, fl.fin iv2_1 (by omega) (fun j h7 h8 => by have := hs i6_1.toInt.toNat j (by omega) h8; omega)⟩
      · refine mv_iload d_Facts_asKnown_18 rfl ?_
        refine mv_sipush (v := 300) d_Facts_asKnown_20 (by decide) ?_
        have := mz_hi i6_1
        refine mv_icmp_geZ (tgt := 95) (a := i6_1.toInt) (b := 300) d_Facts_asKnown_23 (by decide) rfl (by decide) (fun b3 => ?_) (fun b3 => ?_)
        · refine mv_iload d_Facts_asKnown_95 rfl ?_
          exact mv_iret d_Facts_asKnown_97 rfl (by first | rfl | decide) ⟨_, I_1, _, rfl, fl.fin iv2_1 (by omega) (fun j h7 h8 => by have := hs i6_1.toInt.toNat j (by omega) h8; omega)⟩
        · refine mv_aload_n d_Facts_asKnown_26 rfl rfl ?_
          obtain ⟨a5, q4, t_a5⟩ := tm_atR I_1 h_q0_1 (k := 3) rfl
          refine tr_getK q4 d_Facts_asKnown_27 f_Facts_21_5 ?_
          refine mv_iload d_Facts_asKnown_30 rfl ?_
          refine tr_ialdF (F := o0) (k := 3) I_1 q4 t_a5 (by decide) d_Facts_asKnown_32 (vp_in_iff.mpr (by omega)) (fun v6 e7 => ?_)
          have : v6.toInt = ra M0 o0 3 i6_1.toInt.toNat := e7.trans (ra_F I0 I_1 h_o0 (by decide) rfl rfl _)
          refine mv_iload_n d_Facts_asKnown_33 rfl rfl ?_
          have := mz_hi v6
          have := mz_hi x3
          refine mv_icmp_gtZ (tgt := 95) (a := v6.toInt) (b := x3.toInt) d_Facts_asKnown_34 (by decide) rfl rfl (fun b8 => ?_) (fun b8 => ?_)
          · refine mv_iload d_Facts_asKnown_95 rfl ?_
            exact mv_iret d_Facts_asKnown_97 rfl (by first | rfl | decide) ⟨_, I_1, _, rfl, fl.fin iv2_1 (by omega) (fun j h7 h8 => by have := hs i6_1.toInt.toNat j (by omega) h8; omega)⟩
          · refine mv_aload_n d_Facts_asKnown_37 rfl rfl ?_
            obtain ⟨a10, q9, t_a10⟩ := tm_atR I_1 h_q0_1 (k := 0) rfl
            refine tr_getK q9 d_Facts_asKnown_38 f_Facts_9_5 ?_
            refine mv_iload d_Facts_asKnown_41 rfl ?_
            refine tr_ialdF (F := o0) (k := 0) I_1 q9 t_a10 (by decide) d_Facts_asKnown_43 (vp_in_iff.mpr (by omega)) (fun v11 e12 => ?_)
            have : v11.toInt = ra M0 o0 0 i6_1.toInt.toNat := e12.trans (ra_F I0 I_1 h_o0 (by decide) rfl rfl _)
            refine mv_iload_n d_Facts_asKnown_44 rfl rfl ?_
            have := mz_hi v11
            have := mz_hi x1
            refine mv_icmp_neZ (tgt := 89) (a := v11.toInt) (b := x1.toInt) d_Facts_asKnown_45 (by decide) rfl rfl (fun b13 => ?_) (fun b13 => ?_)
            · refine mv_iinc (v := (i6_1 + 1)) (lv' := [(6, .int (i6_1 + 1)), (5, .int i5_1), (4, .int i4_1), (0, .ref o0), (1, .int x1), (2, .int x2), (3, .int x3)]) d_Facts_asKnown_89 rfl rfl (by decide) rfl ?_
              refine mv_goto (tgt := 9) d_Facts_asKnown_92 (by decide) ?_
              have b14 : (i6_1 + 1).toInt = i6_1.toInt + 1 := mz_addn 1 1 (by decide) (by have := mz_lo i6_1; omega) (by have := mz_hi i6_1; omega)
              exact (ih1 (i6_1 + 1) i5_1 i4_1 T_1 M_1 n_1 I_1 h_q0_1 (by first | omega | decide) (by first | omega | decide) (fl.no iv2_1 (by omega) (by omega) (hY _ (by omega)) (fun h7 h8 h9 => by omega)) kp0_1 (by omega))
            · refine mv_aload_n d_Facts_asKnown_48 rfl rfl ?_
              obtain ⟨a16, q15, t_a16⟩ := tm_atR I_1 h_q0_1 (k := 1) rfl
              refine tr_getK q15 d_Facts_asKnown_49 f_Facts_15_5 ?_
              refine mv_iload d_Facts_asKnown_52 rfl ?_
              refine tr_ialdF (F := o0) (k := 1) I_1 q15 t_a16 (by decide) d_Facts_asKnown_54 (vp_in_iff.mpr (by omega)) (fun v17 e18 => ?_)
              have : v17.toInt = ra M0 o0 1 i6_1.toInt.toNat := e18.trans (ra_F I0 I_1 h_o0 (by decide) rfl rfl _)
              refine mv_iload_n d_Facts_asKnown_55 rfl rfl ?_
              have := mz_hi v17
              have := mz_hi x2
              refine mv_icmp_gtZ (tgt := 89) (a := v17.toInt) (b := x2.toInt) d_Facts_asKnown_56 (by decide) rfl rfl (fun b19 => ?_) (fun b19 => ?_)
              · refine mv_iinc (v := (i6_1 + 1)) (lv' := [(6, .int (i6_1 + 1)), (5, .int i5_1), (4, .int i4_1), (0, .ref o0), (1, .int x1), (2, .int x2), (3, .int x3)]) d_Facts_asKnown_89 rfl rfl (by decide) rfl ?_
                refine mv_goto (tgt := 9) d_Facts_asKnown_92 (by decide) ?_
                have b20 : (i6_1 + 1).toInt = i6_1.toInt + 1 := mz_addn 1 1 (by decide) (by have := mz_lo i6_1; omega) (by have := mz_hi i6_1; omega)
                exact (ih1 (i6_1 + 1) i5_1 i4_1 T_1 M_1 n_1 I_1 h_q0_1 (by first | omega | decide) (by first | omega | decide) (fl.no iv2_1 (by omega) (by omega) (hY _ (by omega)) (fun h7 h8 h9 => by omega)) kp0_1 (by omega))
              · refine mv_aload_n d_Facts_asKnown_59 rfl rfl ?_
                refine tr_getK (k := 1) q15 d_Facts_asKnown_60 f_Facts_15_5 ?_
                refine mv_iload d_Facts_asKnown_63 rfl ?_
                refine tr_ialdF (F := o0) (k := 1) I_1 q15 t_a16 (by decide) d_Facts_asKnown_65 (vp_in_iff.mpr (by omega)) (fun v21 e22 => ?_)
                have : v21.toInt = ra M0 o0 1 i6_1.toInt.toNat := e22.trans (ra_F I0 I_1 h_o0 (by decide) rfl rfl _)
                refine mv_iload d_Facts_asKnown_66 rfl ?_
                have := mz_hi v21
                have := mz_hi i4_1
                refine mv_icmp_ltZ (tgt := 89) (a := v21.toInt) (b := i4_1.toInt) d_Facts_asKnown_68 (by decide) rfl rfl (fun b23 => ?_) (fun b23 => ?_)
                · refine mv_iinc (v := (i6_1 + 1)) (lv' := [(6, .int (i6_1 + 1)), (5, .int i5_1), (4, .int i4_1), (0, .ref o0), (1, .int x1), (2, .int x2), (3, .int x3)]) d_Facts_asKnown_89 rfl rfl (by decide) rfl ?_
                  refine mv_goto (tgt := 9) d_Facts_asKnown_92 (by decide) ?_
                  have b24 : (i6_1 + 1).toInt = i6_1.toInt + 1 := mz_addn 1 1 (by decide) (by have := mz_lo i6_1; omega) (by have := mz_hi i6_1; omega)
                  exact (ih1 (i6_1 + 1) i5_1 i4_1 T_1 M_1 n_1 I_1 h_q0_1 (by first | omega | decide) (by first | omega | decide) (fl.no iv2_1 (by omega) (by omega) (hY _ (by omega)) (fun h7 h8 h9 => by omega)) kp0_1 (by omega))
                · refine mv_aload_n d_Facts_asKnown_71 rfl rfl ?_
                  refine tr_getK (k := 1) q15 d_Facts_asKnown_72 f_Facts_15_5 ?_
                  refine mv_iload d_Facts_asKnown_75 rfl ?_
                  refine tr_ialdF (F := o0) (k := 1) I_1 q15 t_a16 (by decide) d_Facts_asKnown_77 (vp_in_iff.mpr (by omega)) (fun v25 e26 => ?_)
                  have : v25.toInt = ra M0 o0 1 i6_1.toInt.toNat := e26.trans (ra_F I0 I_1 h_o0 (by decide) rfl rfl _)
                  refine mv_istore (lv' := [(4, .int v25), (6, .int i6_1), (5, .int i5_1), (0, .ref o0), (1, .int x1), (2, .int x2), (3, .int x3)]) d_Facts_asKnown_78 (by decide) rfl ?_
                  refine mv_aload_n d_Facts_asKnown_80 rfl rfl ?_
                  obtain ⟨a28, q27, t_a28⟩ := tm_atR I_1 h_q0_1 (k := 2) rfl
                  refine tr_getK q27 d_Facts_asKnown_81 f_Facts_18_5 ?_
                  refine mv_iload d_Facts_asKnown_84 rfl ?_
                  refine tr_ialdF (F := o0) (k := 2) I_1 q27 t_a28 (by decide) d_Facts_asKnown_86 (vp_in_iff.mpr (by omega)) (fun v29 e30 => ?_)
                  have : v29.toInt = ra M0 o0 2 i6_1.toInt.toNat := e30.trans (ra_F I0 I_1 h_o0 (by decide) rfl rfl _)
                  refine mv_istore (lv' := [(5, .int v29), (4, .int v25), (6, .int i6_1), (0, .ref o0), (1, .int x1), (2, .int x2), (3, .int x3)]) d_Facts_asKnown_87 (by decide) rfl ?_
                  refine mv_iinc (v := (i6_1 + 1)) (lv' := [(6, .int (i6_1 + 1)), (5, .int v29), (4, .int v25), (0, .ref o0), (1, .int x1), (2, .int x2), (3, .int x3)]) d_Facts_asKnown_89 rfl rfl (by decide) rfl ?_
                  refine mv_goto (tgt := 9) d_Facts_asKnown_92 (by decide) ?_
                  have b31 : (i6_1 + 1).toInt = i6_1.toInt + 1 := mz_addn 1 1 (by decide) (by have := mz_lo i6_1; omega) (by have := mz_hi i6_1; omega)
                  exact (ih1 (i6_1 + 1) v29 v25 T_1 M_1 n_1 I_1 h_q0_1 (by first | omega | decide) (by first | omega | decide) (fl.yes iv2_1 (by omega) (by omega) (by omega) (by omega) (by omega) (by omega) (by omega) (by omega)) kp0_1 (by omega))
  have : ((-1) : Int32).toInt = (-1) := by decide
  have : (0 : Int32).toInt = 0 := by decide
  exact mv_less (Nat.zero_le _) (Nat.zero_le _) (L9_1 4294967296 0 0 (-1) T0 M0 n0 I0 h_o0 (by first | omega | decide) (by first | omega | decide) fl.start yc (by show (2147483647 - (0 : Int) : Int) < _; decide))
def w_TrustDesk_factOf_x : List Nat := []
theorem tc_TrustDesk_factOf_x {g : mj_G} {l : Launch} {d : Nat} {T0 : tm_H} {M0 : mj_M} {n0 x9 : Nat} {o0 : Nat} {x1 : Int32} {x2 : Int32} {x3 : Int32} (h_o0 : T0 o0 = some (0, 12, 0)) {F : Nat} {c t : Int32} (h_F : T0 F = some (0, 5, 0)) (q_F : tm_at M0 o0 12 0 (.ref F)) (yc : tm_at M0 F 5 4 (.int c)) (yt : tm_at M0 o0 12 12 (.int t)) (hc : 0 ≤ c.toInt ∧ c.toInt ≤ 300) (hY : ∀ i : Nat, (i : Int) < c.toInt → 0 ≤ ra M0 F 1 i) (hs : ∀ i j : Nat, i ≤ j → (j : Int) < c.toInt → ra M0 F 3 i ≤ ra M0 F 3 j) (I0 : tm_I tm_FT (tm_in w_TrustDesk_factOf_x) x9 T0 M0 n0 T0 M0 n0) : mj_Met g l kY_TrustDesk_factOf (d + 1) [.ref o0, .int x1, .int x2, .int x3] M0 n0 0 0 (tm_Q tm_FT (tm_in w_TrustDesk_factOf_x) x9 T0 M0 n0 (fun r _ _ => ∃ v : Int32, r = some (.int v) ∧ ((v = -1 ∧ ¬ (0 ≤ x1.toInt ∧ x1.toInt ≤ 7 ∧ 0 ≤ x2.toInt ∧ x2.toInt ≤ 100 ∧ 0 ≤ x3.toInt ∧ x3.toInt ≤ t.toInt)) ∨ ((0 ≤ x1.toInt ∧ x1.toInt ≤ 7 ∧ 0 ≤ x2.toInt ∧ x2.toInt ≤ 100 ∧ 0 ≤ x3.toInt ∧ x3.toInt ≤ t.toInt) ∧ fq (ra M0 F 0) (ra M0 F 1) (ra M0 F 2) (ra M0 F 3) c.toInt x1.toInt x2.toInt x3.toInt v.toInt)))) := by
  refine mj_enter (by decide) (Nat.le_of_ble_eq_true rfl) ?_
  refine mv_iload_n d_TrustDesk_factOf_0 rfl rfl ?_
  refine mv_callS (kc1 := 0) (ks1 := 0) (kc' := 0) (ks' := 0) (As := [.int x1]) (st9 := [.int x1]) d_TrustDesk_factOf_1 lS_TrustDesk_66 (mj_enter (by decide) (Nat.le_of_ble_eq_true rfl) ?_) rfl (Nat.le_of_ble_eq_true rfl) (Nat.le_of_ble_eq_true rfl) (Nat.le_of_ble_eq_true rfl) (hst := rfl) (fun _ _ _ h => h)
  refine mv_iload_n d_TrustDesk_isFact_0 rfl rfl ?_
  have := mz_hi x1
  refine mv_if_ltZ (tgt := 14) (a := x1.toInt) d_TrustDesk_isFact_1 (by decide) rfl (fun b1 => ?_) (fun b1 => ?_)
  · refine mv_iconst (v := 0) d_TrustDesk_isFact_14 (by decide) ?_
    refine mv_iret d_TrustDesk_isFact_15 rfl (by decide) ?_
    refine mv_if_eq_t (tgt := 22) d_TrustDesk_factOf_4 (by decide) (by decide) ?_
    refine mv_iconst (v := (-1)) d_TrustDesk_factOf_22 (by decide) ?_
    exact mv_iret d_TrustDesk_factOf_23 rfl (by first | rfl | decide) ⟨_, I0, _, rfl, Or.inl ⟨rfl, by omega⟩⟩
  · refine mv_iload_n d_TrustDesk_isFact_4 rfl rfl ?_
    refine mv_bipush (v := 8) d_TrustDesk_isFact_5 (by decide) ?_
    have := mz_hi x1
    refine mv_icmp_geZ (tgt := 14) (a := x1.toInt) (b := 8) d_TrustDesk_isFact_7 (by decide) rfl (by decide) (fun b2 => ?_) (fun b2 => ?_)
    · refine mv_iconst (v := 0) d_TrustDesk_isFact_14 (by decide) ?_
      refine mv_iret d_TrustDesk_isFact_15 rfl (by decide) ?_
      refine mv_if_eq_t (tgt := 22) d_TrustDesk_factOf_4 (by decide) (by decide) ?_
      refine mv_iconst (v := (-1)) d_TrustDesk_factOf_22 (by decide) ?_
      exact mv_iret d_TrustDesk_factOf_23 rfl (by first | rfl | decide) ⟨_, I0, _, rfl, Or.inl ⟨rfl, by omega⟩⟩
    · refine mv_iconst (v := 1) d_TrustDesk_isFact_10 (by decide) ?_
      refine mv_goto (tgt := 15) d_TrustDesk_isFact_11 (by decide) ?_
      refine mv_iret d_TrustDesk_isFact_15 rfl (by decide) ?_
      refine mv_if_eq_f (tgt := 22) d_TrustDesk_factOf_4 (by decide) (by decide) ?_
      refine mv_iload_n d_TrustDesk_factOf_7 rfl rfl ?_
      refine mv_callS (kc1 := 0) (ks1 := 0) (kc' := 0) (ks' := 0) (As := [.int x2]) (st9 := [.int x2]) d_TrustDesk_factOf_8 lS_TrustDesk_70 (mj_enter (by decide) (Nat.le_of_ble_eq_true rfl) ?_) rfl (Nat.le_of_ble_eq_true rfl) (Nat.le_of_ble_eq_true rfl) (Nat.le_of_ble_eq_true rfl) (hst := rfl) (fun _ _ _ h => h)
      refine mv_iload_n d_TrustDesk_isYear_0 rfl rfl ?_
      have := mz_hi x2
      refine mv_if_ltZ (tgt := 14) (a := x2.toInt) d_TrustDesk_isYear_1 (by decide) rfl (fun b3 => ?_) (fun b3 => ?_)
      · refine mv_iconst (v := 0) d_TrustDesk_isYear_14 (by decide) ?_
        refine mv_iret d_TrustDesk_isYear_15 rfl (by decide) ?_
        refine mv_if_eq_t (tgt := 22) d_TrustDesk_factOf_11 (by decide) (by decide) ?_
        refine mv_iconst (v := (-1)) d_TrustDesk_factOf_22 (by decide) ?_
        exact mv_iret d_TrustDesk_factOf_23 rfl (by first | rfl | decide) ⟨_, I0, _, rfl, Or.inl ⟨rfl, by omega⟩⟩
      · refine mv_iload_n d_TrustDesk_isYear_4 rfl rfl ?_
        refine mv_bipush (v := 100) d_TrustDesk_isYear_5 (by decide) ?_
        have := mz_hi x2
        refine mv_icmp_gtZ (tgt := 14) (a := x2.toInt) (b := 100) d_TrustDesk_isYear_7 (by decide) rfl (by decide) (fun b4 => ?_) (fun b4 => ?_)
        · refine mv_iconst (v := 0) d_TrustDesk_isYear_14 (by decide) ?_
          refine mv_iret d_TrustDesk_isYear_15 rfl (by decide) ?_
          refine mv_if_eq_t (tgt := 22) d_TrustDesk_factOf_11 (by decide) (by decide) ?_
          refine mv_iconst (v := (-1)) d_TrustDesk_factOf_22 (by decide) ?_
          exact mv_iret d_TrustDesk_factOf_23 rfl (by first | rfl | decide) ⟨_, I0, _, rfl, Or.inl ⟨rfl, by omega⟩⟩
        · refine mv_iconst (v := 1) d_TrustDesk_isYear_10 (by decide) ?_
          refine mv_goto (tgt := 15) d_TrustDesk_isYear_11 (by decide) ?_
          refine mv_iret d_TrustDesk_isYear_15 rfl (by decide) ?_
          refine mv_if_eq_f (tgt := 22) d_TrustDesk_factOf_11 (by decide) (by decide) ?_
          refine mv_aload_n d_TrustDesk_factOf_14 rfl rfl ?_
          refine mv_iload_n d_TrustDesk_factOf_15 rfl rfl ?_
          obtain ⟨_, b5, -⟩ := I0.1 _ _ h_o0
          refine mv_callV (kc1 := 0) (ks1 := 0) (kc' := 0) (ks' := 0) (As := [.int x3]) (st9 := [.int x3, .ref o0]) d_TrustDesk_factOf_16 lV_TrustDesk_81 b5 rfl (mj_enter (by decide) (Nat.le_of_ble_eq_true rfl) ?_) rfl (Nat.le_of_ble_eq_true rfl) (Nat.le_of_ble_eq_true rfl) (Nat.le_of_ble_eq_true rfl) (hst := rfl) (fun _ _ _ h => h)
          refine mv_iload_n d_TrustDesk_isKnown_0 rfl rfl ?_
          have := mz_hi x3
          refine mv_if_ltZ (tgt := 16) (a := x3.toInt) d_TrustDesk_isKnown_1 (by decide) rfl (fun b6 => ?_) (fun b6 => ?_)
          · refine mv_iconst (v := 0) d_TrustDesk_isKnown_16 (by decide) ?_
            refine mv_iret d_TrustDesk_isKnown_17 rfl (by decide) ?_
            refine mv_if_ne_f (tgt := 24) d_TrustDesk_factOf_19 (by decide) (by decide) ?_
            refine mv_iconst (v := (-1)) d_TrustDesk_factOf_22 (by decide) ?_
            exact mv_iret d_TrustDesk_factOf_23 rfl (by first | rfl | decide) ⟨_, I0, _, rfl, Or.inl ⟨rfl, by omega⟩⟩
          · refine mv_iload_n d_TrustDesk_isKnown_4 rfl rfl ?_
            refine mv_aload_n d_TrustDesk_isKnown_5 rfl rfl ?_
            refine tr_getK (k := 12) yt d_TrustDesk_isKnown_6 f_TrustDesk_73_12 ?_
            have := mz_hi x3
            have := mz_hi t
            refine mv_icmp_gtZ (tgt := 16) (a := x3.toInt) (b := t.toInt) d_TrustDesk_isKnown_9 (by decide) rfl rfl (fun b7 => ?_) (fun b7 => ?_)
            · refine mv_iconst (v := 0) d_TrustDesk_isKnown_16 (by decide) ?_
              refine mv_iret d_TrustDesk_isKnown_17 rfl (by decide) ?_
              refine mv_if_ne_f (tgt := 24) d_TrustDesk_factOf_19 (by decide) (by decide) ?_
              refine mv_iconst (v := (-1)) d_TrustDesk_factOf_22 (by decide) ?_
              exact mv_iret d_TrustDesk_factOf_23 rfl (by first | rfl | decide) ⟨_, I0, _, rfl, Or.inl ⟨rfl, by omega⟩⟩
            · refine mv_iconst (v := 1) d_TrustDesk_isKnown_12 (by decide) ?_
              refine mv_goto (tgt := 17) d_TrustDesk_isKnown_13 (by decide) ?_
              refine mv_iret d_TrustDesk_isKnown_17 rfl (by decide) ?_
              refine mv_if_ne_t (tgt := 24) d_TrustDesk_factOf_19 (by decide) (by decide) ?_
              refine mv_aload_n d_TrustDesk_factOf_24 rfl rfl ?_
              refine tr_getK (k := 0) q_F d_TrustDesk_factOf_25 f_TrustDesk_10_12 ?_
              refine mv_iload_n d_TrustDesk_factOf_28 rfl rfl ?_
              refine mv_iload_n d_TrustDesk_factOf_29 rfl rfl ?_
              refine mv_iload_n d_TrustDesk_factOf_30 rfl rfl ?_
              obtain ⟨_, b14, -⟩ := I0.1 _ _ h_F
              refine mv_callV (kc' := 0) (ks' := 0) (As := [.int x1, .int x2, .int x3]) (st9 := [.int x3, .int x2, .int x1, .ref F]) d_TrustDesk_factOf_31 lV_TrustDesk_84 b14 rfl (tc_Facts_asKnown_x (d := d) (x9 := x9) (o0 := F) (x1 := x1) (x2 := x2) (x3 := x3) h_F (by first | exact yc | assumption) hc hY hs I0.start) rfl (Nat.le_of_ble_eq_true rfl) (Nat.le_of_ble_eq_true rfl) (Nat.le_of_ble_eq_true rfl) (hst := rfl) (fun b8r M9 n10 b8 => ?_)
              obtain ⟨T11, J12, v15, rfl, h16⟩ := b8
              have I13 := I0.call J12 (tm_sub (by decide)) (Or.inl rfl)
              have t17 := J12.up h_o0
              have q18 := J12.keep h_o0 (by decide) q_F
              have t19 := J12.up h_F
              have q20 := J12.keep h_F (by decide) yc
              have q21 := J12.keep h_o0 (by decide) yt
              exact mv_iret d_TrustDesk_factOf_34 rfl (by first | rfl | decide) ⟨_, I13, _, rfl, Or.inr ⟨by omega, h16⟩⟩
set_option maxHeartbeats 100000000 in theorem tc_TrustDeskModel_fact_y {g : mj_G} {l : Launch} {d : Nat} {T0 : tm_H} {M0 : mj_M} {n0 x9 : Nat} {o0 : Nat} {x1 : Int32} {x2 : Int32} {x3 : Int32} (h_o0 : T0 o0 = some (0, 13, 0)) (yR : rI M0 o0) {c : Int32} (y_c : tm_at M0 o0 13 2 (.int c)) {t : Int32} (y_t : tm_at M0 o0 13 1 (.int t)) (I0 : tm_I tm_FT (tm_in w_TrustDeskModel_fact_x) x9 T0 M0 n0 T0 M0 n0) : mj_Met g l kY_TrustDeskModel_fact (d + 1) [.ref o0, .int x1, .int x2, .int x3] M0 n0 0 0 (tm_Q tm_FT (tm_in w_TrustDeskModel_fact_x) x9 T0 M0 n0 (fun r _ M => ∃ v : Int32, r = some (.int v) ∧ 0 ≤ v.toInt ∧ v.toInt ≤ 1 ∧ rI M o0 ∧ ((v = 0 ∧ ¬ (0 ≤ x1.toInt ∧ x1.toInt ≤ 7 ∧ 0 ≤ x2.toInt ∧ x2.toInt ≤ 100 ∧ 0 ≤ x3.toInt ∧ x3.toInt ≤ 9999 ∧ c.toInt ≠ 300) ∧ tm_at M o0 13 2 (.int c) ∧ ∀ j : Nat, ra M o0 3 j = ra M0 o0 3 j) ∨ (v = 1 ∧ (0 ≤ x1.toInt ∧ x1.toInt ≤ 7 ∧ 0 ≤ x2.toInt ∧ x2.toInt ≤ 100 ∧ 0 ≤ x3.toInt ∧ x3.toInt ≤ 9999 ∧ c.toInt ≠ 300) ∧ tm_at M o0 13 2 (.int (c + 1)) ∧ ∀ j : Nat, ra M o0 3 j = if (j : Int) = 4 * c.toInt + 3 then t.toInt else if (j : Int) = 4 * c.toInt + 2 then x3.toInt else if (j : Int) = 4 * c.toInt + 1 then x2.toInt else if (j : Int) = 4 * c.toInt + 0 then x1.toInt else ra M0 o0 3 j)))) := by
  refine mj_enter (by decide) (Nat.le_of_ble_eq_true rfl) ?_
  have := yR.f (k := 2) y_c rfl
  have := yR.f (k := 1) y_t rfl
  have K1 : ∀ j : Nat, ra M0 o0 3 j = ra M0 o0 3 j := (fun _ => rfl)
  refine mv_aload_n d_TrustDeskModel_fact_0 rfl rfl ?_
  refine mv_iconst (v := 0) d_TrustDeskModel_fact_1 (by decide) ?_
  refine tr_putR (k := 0) I0 yR h_o0 rfl ⟨_, rfl⟩ (fun _ h => by cases h) rfl (fun lo hi h => by cases h) (Or.inl (by decide)) d_TrustDeskModel_fact_2 p_TrustDeskModel_1_13 rfl rfl (fun M2 I3 q4 K5 R6 A7 V8 => ?_)
  have K9 : ∀ j : Nat, ra M2 o0 3 j = ra M0 o0 3 j := (by have e9 := ((sA_f A7 (by decide)) : sA [3] _ _ _) 3 rfl; rw [e9]; exact K1)
  refine mv_iload_n d_TrustDeskModel_fact_5 rfl rfl ?_
  refine mv_i2l (v := x1.toInt64) d_TrustDeskModel_fact_6 rfl ?_
  refine mv_lconst (v := 0) d_TrustDeskModel_fact_7 (by decide) ?_
  refine mv_ldc2 d_TrustDeskModel_fact_8 k_TrustDeskModel_167 ?_
  refine mv_callS (kc1 := 0) (ks1 := 0) (kc' := 0) (ks' := 0) (As := [.long x1.toInt64, .long 0, .long 7]) (st9 := [.long 7, .long 0, .long x1.toInt64]) d_TrustDeskModel_fact_11 lS_TrustDeskModel_169 (mj_enter (by decide) (Nat.le_of_ble_eq_true rfl) ?_) rfl (Nat.le_of_ble_eq_true rfl) (Nat.le_of_ble_eq_true rfl) (Nat.le_of_ble_eq_true rfl) (hst := rfl) (fun _ _ _ h => h)
  refine mv_lload_n d_TrustDeskModel_within_0 rfl rfl ?_
  refine mv_lload_n d_TrustDeskModel_within_1 rfl rfl ?_
  refine mv_lltZ (tgt := 17) (a := x1.toInt) (b := 0) d_TrustDeskModel_within_2 d_TrustDeskModel_within_3 (by decide) (mz_wide _) (by decide) (fun b10 => ?_) (fun b10 => ?_)
  · refine mv_iconst (v := 0) d_TrustDeskModel_within_17 (by decide) ?_
    refine mv_iret d_TrustDeskModel_within_18 rfl (by decide) ?_
    refine mv_if_eq_t (tgt := 46) d_TrustDeskModel_fact_14 (by decide) (by decide) ?_
    refine mv_iconst (v := 0) d_TrustDeskModel_fact_46 (by decide) ?_
    exact mv_iret d_TrustDeskModel_fact_47 rfl (by decide) ⟨_, I3, _, rfl, by decide, by decide, R6, (Or.inl ⟨rfl, (by omega), (K5 _ 13 2 _ rfl y_c), K9⟩)⟩
  · refine mv_lload_n d_TrustDeskModel_within_6 rfl rfl ?_
    refine mv_lload d_TrustDeskModel_within_7 rfl ?_
    refine mv_lgtZ (tgt := 17) (a := x1.toInt) (b := 7) d_TrustDeskModel_within_9 d_TrustDeskModel_within_10 (by decide) (mz_wide _) (by decide) (fun b11 => ?_) (fun b11 => ?_)
    · refine mv_iconst (v := 0) d_TrustDeskModel_within_17 (by decide) ?_
      refine mv_iret d_TrustDeskModel_within_18 rfl (by decide) ?_
      refine mv_if_eq_t (tgt := 46) d_TrustDeskModel_fact_14 (by decide) (by decide) ?_
      refine mv_iconst (v := 0) d_TrustDeskModel_fact_46 (by decide) ?_
      exact mv_iret d_TrustDeskModel_fact_47 rfl (by decide) ⟨_, I3, _, rfl, by decide, by decide, R6, (Or.inl ⟨rfl, (by omega), (K5 _ 13 2 _ rfl y_c), K9⟩)⟩
    · refine mv_iconst (v := 1) d_TrustDeskModel_within_13 (by decide) ?_
      refine mv_goto (tgt := 18) d_TrustDeskModel_within_14 (by decide) ?_
      refine mv_iret d_TrustDeskModel_within_18 rfl (by decide) ?_
      refine mv_if_eq_f (tgt := 46) d_TrustDeskModel_fact_14 (by decide) (by decide) ?_
      refine mv_iload_n d_TrustDeskModel_fact_17 rfl rfl ?_
      refine mv_callS (kc1 := 0) (ks1 := 0) (kc' := 0) (ks' := 0) (As := [.int x2]) (st9 := [.int x2]) d_TrustDeskModel_fact_18 lS_TrustDeskModel_173 (mj_enter (by decide) (Nat.le_of_ble_eq_true rfl) ?_) rfl (Nat.le_of_ble_eq_true rfl) (Nat.le_of_ble_eq_true rfl) (Nat.le_of_ble_eq_true rfl) (hst := rfl) (fun _ _ _ h => h)
      refine mv_iload_n d_TrustDeskModel_isYear_0 rfl rfl ?_
      have := mz_hi x2
      refine mv_if_ltZ (tgt := 14) (a := x2.toInt) d_TrustDeskModel_isYear_1 (by decide) rfl (fun b12 => ?_) (fun b12 => ?_)
      · refine mv_iconst (v := 0) d_TrustDeskModel_isYear_14 (by decide) ?_
        refine mv_iret d_TrustDeskModel_isYear_15 rfl (by decide) ?_
        refine mv_if_eq_t (tgt := 46) d_TrustDeskModel_fact_21 (by decide) (by decide) ?_
        refine mv_iconst (v := 0) d_TrustDeskModel_fact_46 (by decide) ?_
        exact mv_iret d_TrustDeskModel_fact_47 rfl (by decide) ⟨_, I3, _, rfl, by decide, by decide, R6, (Or.inl ⟨rfl, (by omega), (K5 _ 13 2 _ rfl y_c), K9⟩)⟩
      · refine mv_iload_n d_TrustDeskModel_isYear_4 rfl rfl ?_
        refine mv_bipush (v := 100) d_TrustDeskModel_isYear_5 (by decide) ?_
        have := mz_hi x2
        refine mv_icmp_gtZ (tgt := 14) (a := x2.toInt) (b := 100) d_TrustDeskModel_isYear_7 (by decide) rfl (by decide) (fun b13 => ?_) (fun b13 => ?_)
        · refine mv_iconst (v := 0) d_TrustDeskModel_isYear_14 (by decide) ?_
          refine mv_iret d_TrustDeskModel_isYear_15 rfl (by decide) ?_
          refine mv_if_eq_t (tgt := 46) d_TrustDeskModel_fact_21 (by decide) (by decide) ?_
          refine mv_iconst (v := 0) d_TrustDeskModel_fact_46 (by decide) ?_
          exact mv_iret d_TrustDeskModel_fact_47 rfl (by decide) ⟨_, I3, _, rfl, by decide, by decide, R6, (Or.inl ⟨rfl, (by omega), (K5 _ 13 2 _ rfl y_c), K9⟩)⟩
        · refine mv_iconst (v := 1) d_TrustDeskModel_isYear_10 (by decide) ?_
          refine mv_goto (tgt := 15) d_TrustDeskModel_isYear_11 (by decide) ?_
          refine mv_iret d_TrustDeskModel_isYear_15 rfl (by decide) ?_
          refine mv_if_eq_f (tgt := 46) d_TrustDeskModel_fact_21 (by decide) (by decide) ?_
          refine mv_iload_n d_TrustDeskModel_fact_24 rfl rfl ?_
          refine mv_i2l (v := x3.toInt64) d_TrustDeskModel_fact_25 rfl ?_
          refine mv_lconst (v := 0) d_TrustDeskModel_fact_26 (by decide) ?_
          refine mv_ldc2 d_TrustDeskModel_fact_27 k_TrustDeskModel_177 ?_
          refine mv_callS (kc1 := 0) (ks1 := 0) (kc' := 0) (ks' := 0) (As := [.long x3.toInt64, .long 0, .long 9999]) (st9 := [.long 9999, .long 0, .long x3.toInt64]) d_TrustDeskModel_fact_30 lS_TrustDeskModel_169 (mj_enter (by decide) (Nat.le_of_ble_eq_true rfl) ?_) rfl (Nat.le_of_ble_eq_true rfl) (Nat.le_of_ble_eq_true rfl) (Nat.le_of_ble_eq_true rfl) (hst := rfl) (fun _ _ _ h => h)
          refine mv_lload_n d_TrustDeskModel_within_0 rfl rfl ?_
          refine mv_lload_n d_TrustDeskModel_within_1 rfl rfl ?_
          refine mv_lltZ (tgt := 17) (a := x3.toInt) (b := 0) d_TrustDeskModel_within_2 d_TrustDeskModel_within_3 (by decide) (mz_wide _) (by decide) (fun b14 => ?_) (fun b14 => ?_)
          · refine mv_iconst (v := 0) d_TrustDeskModel_within_17 (by decide) ?_
            refine mv_iret d_TrustDeskModel_within_18 rfl (by decide) ?_
            refine mv_if_eq_t (tgt := 46) d_TrustDeskModel_fact_33 (by decide) (by decide) ?_
            refine mv_iconst (v := 0) d_TrustDeskModel_fact_46 (by decide) ?_
            exact mv_iret d_TrustDeskModel_fact_47 rfl (by decide) ⟨_, I3, _, rfl, by decide, by decide, R6, (Or.inl ⟨rfl, (by omega), (K5 _ 13 2 _ rfl y_c), K9⟩)⟩
          · refine mv_lload_n d_TrustDeskModel_within_6 rfl rfl ?_
            refine mv_lload d_TrustDeskModel_within_7 rfl ?_
            refine mv_lgtZ (tgt := 17) (a := x3.toInt) (b := 9999) d_TrustDeskModel_within_9 d_TrustDeskModel_within_10 (by decide) (mz_wide _) (by decide) (fun b15 => ?_) (fun b15 => ?_)
            · refine mv_iconst (v := 0) d_TrustDeskModel_within_17 (by decide) ?_
              refine mv_iret d_TrustDeskModel_within_18 rfl (by decide) ?_
              refine mv_if_eq_t (tgt := 46) d_TrustDeskModel_fact_33 (by decide) (by decide) ?_
              refine mv_iconst (v := 0) d_TrustDeskModel_fact_46 (by decide) ?_
              exact mv_iret d_TrustDeskModel_fact_47 rfl (by decide) ⟨_, I3, _, rfl, by decide, by decide, R6, (Or.inl ⟨rfl, (by omega), (K5 _ 13 2 _ rfl y_c), K9⟩)⟩
            · refine mv_iconst (v := 1) d_TrustDeskModel_within_13 (by decide) ?_
              refine mv_goto (tgt := 18) d_TrustDeskModel_within_14 (by decide) ?_
              refine mv_iret d_TrustDeskModel_within_18 rfl (by decide) ?_
              refine mv_if_eq_f (tgt := 46) d_TrustDeskModel_fact_33 (by decide) (by decide) ?_
              refine mv_aload_n d_TrustDeskModel_fact_36 rfl rfl ?_
              refine tr_getK (k := 2) (K5 _ 13 2 _ rfl y_c) d_TrustDeskModel_fact_37 f_TrustDeskModel_179_13 ?_
              refine mv_sipush (v := 300) d_TrustDeskModel_fact_40 (by decide) ?_
              have := mz_hi c
              refine mv_icmp_neZ (tgt := 48) (a := c.toInt) (b := 300) d_TrustDeskModel_fact_43 (by decide) rfl (by decide) (fun b16 => ?_) (fun b16 => ?_)
              · refine mv_aload_n d_TrustDeskModel_fact_48 rfl rfl ?_
                obtain ⟨a18, q17, t_a18⟩ := tm_atR I3 h_o0 (k := 3) rfl
                refine tr_getK q17 d_TrustDeskModel_fact_49 f_TrustDeskModel_13_13 ?_
                refine mv_iconst (v := 4) d_TrustDeskModel_fact_52 (by decide) ?_
                refine mv_aload_n d_TrustDeskModel_fact_53 rfl rfl ?_
                refine tr_getK (k := 2) (K5 _ 13 2 _ rfl y_c) d_TrustDeskModel_fact_54 f_TrustDeskModel_179_13 ?_
                refine mv_imul d_TrustDeskModel_fact_57 ?_
                refine mv_iload_n d_TrustDeskModel_fact_58 rfl rfl ?_
                have b19 : (4 * c : Int32).toInt = (4 * c.toInt) := mz_mul2 (by decide) rfl (by omega) (by omega)
                refine tr_iastR (k := 3) I3 R6 (I3.up h_o0) q17 t_a18 (by decide) (by decide) (fun lo hi h => by cases h; exact ⟨by show (0 : Int) ≤ x1.toInt; omega, by show x1.toInt ≤ (36000 : Int); omega⟩) (Or.inl (by decide)) d_TrustDeskModel_fact_59 (vp_in_iff.mpr (by omega)) (fun M20 I21 K22 R23 E24 A25 V26 => ?_)
                have K27 : ∀ j : Nat, ra M20 o0 3 j = if (j : Int) = 4 * c.toInt + 0 then x1.toInt else ra M0 o0 3 j := (fun j => (ad_of E24 (show ((4 * c).toNatClampNeg : Int) = 4 * c.toInt + 0 by have := mz_nat9 (i := (4 * c)) (by omega); omega) j).trans (by rw [K9 j]))
                refine mv_aload_n d_TrustDeskModel_fact_60 rfl rfl ?_
                refine tr_getK (k := 3) (K22 _ 13 3 _ q17) d_TrustDeskModel_fact_61 f_TrustDeskModel_13_13 ?_
                refine mv_iconst (v := 4) d_TrustDeskModel_fact_64 (by decide) ?_
                refine mv_aload_n d_TrustDeskModel_fact_65 rfl rfl ?_
                refine tr_getK (k := 2) (K22 _ 13 2 _ (K5 _ 13 2 _ rfl y_c)) d_TrustDeskModel_fact_66 f_TrustDeskModel_179_13 ?_
                refine mv_imul d_TrustDeskModel_fact_69 ?_
                refine mv_iconst (v := 1) d_TrustDeskModel_fact_70 (by decide) ?_
                refine mv_iadd d_TrustDeskModel_fact_71 ?_
                refine mv_iload_n d_TrustDeskModel_fact_72 rfl rfl ?_
                have b28 : (4 * c : Int32).toInt = (4 * c.toInt) := mz_mul2 (by decide) rfl (by omega) (by omega)
                have b29 : ((4 * c) + 1 : Int32).toInt = ((4 * c.toInt) + 1) := mz_add2 b28 (by decide) (by omega) (by omega)
                refine tr_iastR (k := 3) I21 R23 (I21.up h_o0) (K22 _ 13 3 _ q17) t_a18 (by decide) (by decide) (fun lo hi h => by cases h; exact ⟨by show (0 : Int) ≤ x2.toInt; omega, by show x2.toInt ≤ (36000 : Int); omega⟩) (Or.inl (by decide)) d_TrustDeskModel_fact_73 (vp_in_iff.mpr (by omega)) (fun M30 I31 K32 R33 E34 A35 V36 => ?_)
                have K37 : ∀ j : Nat, ra M30 o0 3 j = if (j : Int) = 4 * c.toInt + 1 then x2.toInt else if (j : Int) = 4 * c.toInt + 0 then x1.toInt else ra M0 o0 3 j := (fun j => (ad_of E34 (show (((4 * c) + 1).toNatClampNeg : Int) = 4 * c.toInt + 1 by have := mz_nat9 (i := ((4 * c) + 1)) (by omega); omega) j).trans (by rw [K27 j]))
                refine mv_aload_n d_TrustDeskModel_fact_74 rfl rfl ?_
                refine tr_getK (k := 3) (K32 _ 13 3 _ (K22 _ 13 3 _ q17)) d_TrustDeskModel_fact_75 f_TrustDeskModel_13_13 ?_
                refine mv_iconst (v := 4) d_TrustDeskModel_fact_78 (by decide) ?_
                refine mv_aload_n d_TrustDeskModel_fact_79 rfl rfl ?_
                refine tr_getK (k := 2) (K32 _ 13 2 _ (K22 _ 13 2 _ (K5 _ 13 2 _ rfl y_c))) d_TrustDeskModel_fact_80 f_TrustDeskModel_179_13 ?_
                refine mv_imul d_TrustDeskModel_fact_83 ?_
                refine mv_iconst (v := 2) d_TrustDeskModel_fact_84 (by decide) ?_
                refine mv_iadd d_TrustDeskModel_fact_85 ?_
                refine mv_iload_n d_TrustDeskModel_fact_86 rfl rfl ?_
                have b38 : (4 * c : Int32).toInt = (4 * c.toInt) := mz_mul2 (by decide) rfl (by omega) (by omega)
                have b39 : ((4 * c) + 2 : Int32).toInt = ((4 * c.toInt) + 2) := mz_add2 b38 (by decide) (by omega) (by omega)
                refine tr_iastR (k := 3) I31 R33 (I31.up h_o0) (K32 _ 13 3 _ (K22 _ 13 3 _ q17)) t_a18 (by decide) (by decide) (fun lo hi h => by cases h; exact ⟨by show (0 : Int) ≤ x3.toInt; omega, by show x3.toInt ≤ (36000 : Int); omega⟩) (Or.inl (by decide)) d_TrustDeskModel_fact_87 (vp_in_iff.mpr (by omega)) (fun M40 I41 K42 R43 E44 A45 V46 => ?_)
                have K47 : ∀ j : Nat, ra M40 o0 3 j = if (j : Int) = 4 * c.toInt + 2 then x3.toInt else if (j : Int) = 4 * c.toInt + 1 then x2.toInt else if (j : Int) = 4 * c.toInt + 0 then x1.toInt else ra M0 o0 3 j := (fun j => (ad_of E44 (show (((4 * c) + 2).toNatClampNeg : Int) = 4 * c.toInt + 2 by have := mz_nat9 (i := ((4 * c) + 2)) (by omega); omega) j).trans (by rw [K37 j]))
                refine mv_aload_n d_TrustDeskModel_fact_88 rfl rfl ?_
                refine tr_getK (k := 3) (K42 _ 13 3 _ (K32 _ 13 3 _ (K22 _ 13 3 _ q17))) d_TrustDeskModel_fact_89 f_TrustDeskModel_13_13 ?_
                refine mv_iconst (v := 4) d_TrustDeskModel_fact_92 (by decide) ?_
                refine mv_aload_n d_TrustDeskModel_fact_93 rfl rfl ?_
                refine tr_getK (k := 2) (K42 _ 13 2 _ (K32 _ 13 2 _ (K22 _ 13 2 _ (K5 _ 13 2 _ rfl y_c)))) d_TrustDeskModel_fact_94 f_TrustDeskModel_179_13 ?_
                refine mv_imul d_TrustDeskModel_fact_97 ?_
                refine mv_iconst (v := 3) d_TrustDeskModel_fact_98 (by decide) ?_
                refine mv_iadd d_TrustDeskModel_fact_99 ?_
                refine mv_aload_n d_TrustDeskModel_fact_100 rfl rfl ?_
                refine tr_getK (k := 1) (K42 _ 13 1 _ (K32 _ 13 1 _ (K22 _ 13 1 _ (K5 _ 13 1 _ rfl y_t)))) d_TrustDeskModel_fact_101 f_TrustDeskModel_164_13 ?_
                have b48 : (4 * c : Int32).toInt = (4 * c.toInt) := mz_mul2 (by decide) rfl (by omega) (by omega)
                have b49 : ((4 * c) + 3 : Int32).toInt = ((4 * c.toInt) + 3) := mz_add2 b48 (by decide) (by omega) (by omega)
                refine tr_iastR (k := 3) I41 R43 (I41.up h_o0) (K42 _ 13 3 _ (K32 _ 13 3 _ (K22 _ 13 3 _ q17))) t_a18 (by decide) (by decide) (fun lo hi h => by cases h; exact ⟨by show (0 : Int) ≤ t.toInt; omega, by show t.toInt ≤ (36000 : Int); omega⟩) (Or.inl (by decide)) d_TrustDeskModel_fact_104 (vp_in_iff.mpr (by omega)) (fun M50 I51 K52 R53 E54 A55 V56 => ?_)
                have K57 : ∀ j : Nat, ra M50 o0 3 j = if (j : Int) = 4 * c.toInt + 3 then t.toInt else if (j : Int) = 4 * c.toInt + 2 then x3.toInt else if (j : Int) = 4 * c.toInt + 1 then x2.toInt else if (j : Int) = 4 * c.toInt + 0 then x1.toInt else ra M0 o0 3 j := (fun j => (ad_of E54 (show (((4 * c) + 3).toNatClampNeg : Int) = 4 * c.toInt + 3 by have := mz_nat9 (i := ((4 * c) + 3)) (by omega); omega) j).trans (by rw [K47 j]))
                refine mv_aload_n d_TrustDeskModel_fact_105 rfl rfl ?_
                refine mv_dup d_TrustDeskModel_fact_106 rfl ?_
                refine tr_getK (k := 2) (K52 _ 13 2 _ (K42 _ 13 2 _ (K32 _ 13 2 _ (K22 _ 13 2 _ (K5 _ 13 2 _ rfl y_c))))) d_TrustDeskModel_fact_107 f_TrustDeskModel_179_13 ?_
                refine mv_iconst (v := 1) d_TrustDeskModel_fact_110 (by decide) ?_
                refine mv_iadd d_TrustDeskModel_fact_111 ?_
                have b58 : (c + 1 : Int32).toInt = (c.toInt + 1) := mz_add2 rfl (by decide) (by omega) (by omega)
                refine tr_putR (k := 2) I51 R53 h_o0 rfl ⟨_, rfl⟩ (fun _ h => by cases h) rfl (fun lo hi h => by cases h; exact ⟨by show (0 : Int) ≤ (c + 1).toInt; omega, by show (c + 1).toInt ≤ (300 : Int); omega⟩) (Or.inl (by decide)) d_TrustDeskModel_fact_112 p_TrustDeskModel_179_13 rfl rfl (fun M59 I60 q61 K62 R63 A64 V65 => ?_)
                have K66 : ∀ j : Nat, ra M59 o0 3 j = if (j : Int) = 4 * c.toInt + 3 then t.toInt else if (j : Int) = 4 * c.toInt + 2 then x3.toInt else if (j : Int) = 4 * c.toInt + 1 then x2.toInt else if (j : Int) = 4 * c.toInt + 0 then x1.toInt else ra M0 o0 3 j := (by have e9 := ((sA_f A64 (by decide)) : sA [3] _ _ _) 3 rfl; rw [e9]; exact K57)
                refine mv_iconst (v := 1) d_TrustDeskModel_fact_115 (by decide) ?_
                exact mv_iret d_TrustDeskModel_fact_116 rfl (by decide) ⟨_, I60, _, rfl, by decide, by decide, R63, (Or.inr ⟨rfl, (by omega), q61, K66⟩)⟩
              · refine mv_iconst (v := 0) d_TrustDeskModel_fact_46 (by decide) ?_
                exact mv_iret d_TrustDeskModel_fact_47 rfl (by decide) ⟨_, I3, _, rfl, by decide, by decide, R6, (Or.inl ⟨rfl, (by omega), (K5 _ 13 2 _ rfl y_c), K9⟩)⟩
set_option maxHeartbeats 100000000 in theorem tc_TrustDeskModel_factAt_y {g : mj_G} {l : Launch} {d : Nat} {T0 : tm_H} {M0 : mj_M} {n0 x9 : Nat} {o0 : Nat} {x1 : Int32} {x2 : Int32} {x3 : Int32} (h_o0 : T0 o0 = some (0, 13, 0)) (yR : rI M0 o0) {c : Int32} (y_c : tm_at M0 o0 13 2 (.int c)) (I0 : tm_I tm_FT (tm_in w_TrustDeskModel_factAt_x) x9 T0 M0 n0 T0 M0 n0) : mj_Met g l kY_TrustDeskModel_factAt d [.ref o0, .int x1, .int x2, .int x3] M0 n0 0 0 (tm_Q tm_FT (tm_in w_TrustDeskModel_factAt_x) x9 T0 M0 n0 (fun r _ M => ∃ v : Int32, r = some (.int v) ∧ rI M o0 ∧ (0 ≤ v.toInt ∧ v.toInt ≤ 36000) ∧ (fq (f4 M0 o0 0) (f4 M0 o0 1) (f4 M0 o0 2) (f4 M0 o0 3) c.toInt x1.toInt x2.toInt x3.toInt v.toInt))) := by
  refine mj_enter (by decide) (Nat.le_of_ble_eq_true rfl) ?_
  have := yR.f (k := 2) y_c rfl
  have K1 : sA [3] M0 M0 o0 := sA.rf
  refine mv_iconst (v := (-1)) d_TrustDeskModel_factAt_0 (by decide) ?_
  refine mv_istore (lv' := [(4, .int (-1)), (0, .ref o0), (1, .int x1), (2, .int x2), (3, .int x3)]) d_TrustDeskModel_factAt_1 (by decide) rfl ?_
  refine mv_aload_n d_TrustDeskModel_factAt_3 rfl rfl ?_
  refine tr_getK (k := 2) y_c d_TrustDeskModel_factAt_4 f_TrustDeskModel_179_13 ?_
  refine mv_iconst (v := 1) d_TrustDeskModel_factAt_7 (by decide) ?_
  refine mv_isub d_TrustDeskModel_factAt_8 ?_
  refine mv_istore (lv' := [(5, .int (c - 1)), (4, .int (-1)), (0, .ref o0), (1, .int x1), (2, .int x2), (3, .int x3)]) d_TrustDeskModel_factAt_9 (by decide) rfl ?_
  have L11_2 : ∀ (k : Nat) (i5_2 : Int32) (i4_2 : Int32) (T_2 : tm_H) (M_2 : mj_M) (n_2 : Nat), tm_I tm_FT (tm_in w_TrustDeskModel_factAt_x) x9 T0 M0 n0 T_2 M_2 n_2 → T_2 o0 = some (0, 13, 0) → -1 ≤ i5_2.toInt → i5_2.toInt ≤ 299 → -1 ≤ i4_2.toInt → i4_2.toInt ≤ 299 → i5_2.toInt < c.toInt → rl (f4 M0 o0 0) (f4 M0 o0 1) (f4 M0 o0 3) c.toInt i5_2.toInt x1.toInt x2.toInt x3.toInt i4_2.toInt → (rI M_2 o0) → (sA [3] M0 M_2 o0) → i5_2.toInt + 1 < (k : Int) → mj_V g l kY_TrustDeskModel_factAt d 11 [(5, .int i5_2), (4, .int i4_2), (0, .ref o0), (1, .int x1), (2, .int x2), (3, .int x3)] [] M_2 n_2 0 0 (tm_Q tm_FT (tm_in w_TrustDeskModel_factAt_x) x9 T0 M0 n0 (fun r _ M => ∃ v : Int32, r = some (.int v) ∧ rI M o0 ∧ (0 ≤ v.toInt ∧ v.toInt ≤ 36000) ∧ (fq (f4 M0 o0 0) (f4 M0 o0 1) (f4 M0 o0 2) (f4 M0 o0 3) c.toInt x1.toInt x2.toInt x3.toInt v.toInt))) := by
    intro k2
    induction k2 with
    | zero =>
      intro i5_2 i4_2 T_2 M_2 n_2 I_2 h_q0_2 iv0_2 iv1_2 iv2_2 iv3_2 iv4_2 iv5_2 kKR_2 kKS3_2 hk2
      have := kKR_2.1 15 _ _ rfl
      have := kKR_2.1 16 _ _ rfl
      have := kKR_2.1 19 _ _ rfl
      exfalso; omega
    | succ k2 ih2 =>
      intro i5_2 i4_2 T_2 M_2 n_2 I_2 h_q0_2 iv0_2 iv1_2 iv2_2 iv3_2 iv4_2 iv5_2 kKR_2 kKS3_2 hk2
      refine mv_iload d_TrustDeskModel_factAt_11 rfl ?_
      have := mz_hi i5_2
      refine mv_if_ltZ (tgt := 103) (a := i5_2.toInt) d_TrustDeskModel_factAt_13 (by decide) rfl (fun b3 => ?_) (fun b3 => ?_)
      · refine mv_iload d_TrustDeskModel_factAt_103 rfl ?_
        refine mv_iconst (v := (-1)) d_TrustDeskModel_factAt_105 (by decide) ?_
        have := mz_hi i4_2
        refine mv_icmp_neZ (tgt := 113) (a := i4_2.toInt) (b := (-1)) d_TrustDeskModel_factAt_106 (by decide) rfl (by decide) (fun b4 => ?_) (fun b4 => ?_)
        · refine mv_aload_n d_TrustDeskModel_factAt_113 rfl rfl ?_
          obtain ⟨a6, q5, t_a6⟩ := tm_atR I_2 h_q0_2 (k := 3) rfl
          refine tr_getK q5 d_TrustDeskModel_factAt_114 f_TrustDeskModel_13_13 ?_
          refine mv_iconst (v := 4) d_TrustDeskModel_factAt_117 (by decide) ?_
          refine mv_iload d_TrustDeskModel_factAt_118 rfl ?_
          refine mv_imul d_TrustDeskModel_factAt_120 ?_
          refine mv_iconst (v := 2) d_TrustDeskModel_factAt_121 (by decide) ?_
          refine mv_iadd d_TrustDeskModel_factAt_122 ?_
          have b7 : (4 * i4_2 : Int32).toInt = (4 * i4_2.toInt) := mz_mul2 (by decide) rfl (by omega) (by omega)
          have b8 : ((4 * i4_2) + 2 : Int32).toInt = ((4 * i4_2.toInt) + 2) := mz_add2 b7 (by decide) (by omega) (by omega)
          refine tr_ialdR (o := o0) (k := 3) I_2 q5 t_a6 (by decide) d_TrustDeskModel_factAt_123 (vp_in_iff.mpr (by omega)) (fun v9 e10 => ?_)
          have := kKR_2.a (k := 3) rfl (((4 * i4_2) + 2) : Int32).toNatClampNeg
          have h11 : ((4 * i4_2) + 2).toNatClampNeg = 4 * i4_2.toInt.toNat + 2 := by have := mz_nat9 (i := ((4 * i4_2) + 2)) (by omega); omega
          have : v9.toInt = f4 M0 o0 2 i4_2.toInt.toNat := by rw [e10, h11]; exact congrFun (kKS3_2 3 rfl) _
          exact mv_iret d_TrustDeskModel_factAt_124 rfl (by first | rfl | decide) ⟨_, I_2, _, rfl, kKR_2, (by omega), (rl.fin1 iv5_2 (by omega) (by omega) (by omega))⟩
        · refine mv_iconst (v := 0) d_TrustDeskModel_factAt_109 (by decide) ?_
          refine mv_goto (tgt := 124) d_TrustDeskModel_factAt_110 (by decide) ?_
          exact mv_iret d_TrustDeskModel_factAt_124 rfl (by first | rfl | decide) ⟨_, I_2, _, rfl, kKR_2, (by have e9 : (0 : Int32).toInt = 0 := (by decide); omega), (rl.fin0 iv5_2 (by omega) (by omega) (by decide))⟩
      · refine mv_aload_n d_TrustDeskModel_factAt_16 rfl rfl ?_
        obtain ⟨a13, q12, t_a13⟩ := tm_atR I_2 h_q0_2 (k := 3) rfl
        refine tr_getK q12 d_TrustDeskModel_factAt_17 f_TrustDeskModel_13_13 ?_
        refine mv_iconst (v := 4) d_TrustDeskModel_factAt_20 (by decide) ?_
        refine mv_iload d_TrustDeskModel_factAt_21 rfl ?_
        refine mv_imul d_TrustDeskModel_factAt_23 ?_
        have b14 : (4 * i5_2 : Int32).toInt = (4 * i5_2.toInt) := mz_mul2 (by decide) rfl (by omega) (by omega)
        refine tr_ialdR (o := o0) (k := 3) I_2 q12 t_a13 (by decide) d_TrustDeskModel_factAt_24 (vp_in_iff.mpr (by omega)) (fun v15 e16 => ?_)
        have := kKR_2.a (k := 3) rfl ((4 * i5_2) : Int32).toNatClampNeg
        have h17 : (4 * i5_2).toNatClampNeg = 4 * i5_2.toInt.toNat + 0 := by have := mz_nat9 (i := (4 * i5_2)) (by omega); omega
        have : v15.toInt = f4 M0 o0 0 i5_2.toInt.toNat := by rw [e16, h17]; exact congrFun (kKS3_2 3 rfl) _
        refine mv_iload_n d_TrustDeskModel_factAt_25 rfl rfl ?_
        have := mz_hi v15
        have := mz_hi x1
        refine mv_icmp_neZ (tgt := 97) (a := v15.toInt) (b := x1.toInt) d_TrustDeskModel_factAt_26 (by decide) rfl rfl (fun b18 => ?_) (fun b18 => ?_)
        · refine mv_iinc (v := (i5_2 + (-1))) (lv' := [(5, .int (i5_2 + (-1))), (4, .int i4_2), (0, .ref o0), (1, .int x1), (2, .int x2), (3, .int x3)]) d_TrustDeskModel_factAt_97 rfl rfl (by decide) rfl ?_
          obtain ⟨w19, h20, b21⟩ : ∃ w9 : Int32, (i5_2 + (-1)) = w9 ∧ w9.toInt = i5_2.toInt + (-1) := ⟨_, rfl, mz_add2 rfl (by decide) (by omega) (by omega)⟩
          rw [h20]
          clear h20
          refine mv_goto (tgt := 11) d_TrustDeskModel_factAt_100 (by decide) ?_
          exact (ih2 w19 i4_2 T_2 M_2 n_2 I_2 h_q0_2 (by first | omega | decide | exact fun h9 => absurd (by decide) h9) (by first | omega | decide | exact fun h9 => absurd (by decide) h9) (by first | omega | decide | exact fun h9 => absurd (by decide) h9) (by first | omega | decide | exact fun h9 => absurd (by decide) h9) (by first | omega | decide | exact fun h9 => absurd (by decide) h9) (rl.no iv5_2 (by omega) (by omega) (fun h7 h8 h9 => by omega)) kKR_2 kKS3_2 (by omega))
        · refine mv_aload_n d_TrustDeskModel_factAt_29 rfl rfl ?_
          refine tr_getK (k := 3) q12 d_TrustDeskModel_factAt_30 f_TrustDeskModel_13_13 ?_
          refine mv_iconst (v := 4) d_TrustDeskModel_factAt_33 (by decide) ?_
          refine mv_iload d_TrustDeskModel_factAt_34 rfl ?_
          refine mv_imul d_TrustDeskModel_factAt_36 ?_
          refine mv_iconst (v := 1) d_TrustDeskModel_factAt_37 (by decide) ?_
          refine mv_iadd d_TrustDeskModel_factAt_38 ?_
          have b22 : (4 * i5_2 : Int32).toInt = (4 * i5_2.toInt) := mz_mul2 (by decide) rfl (by omega) (by omega)
          have b23 : ((4 * i5_2) + 1 : Int32).toInt = ((4 * i5_2.toInt) + 1) := mz_add2 b22 (by decide) (by omega) (by omega)
          refine tr_ialdR (o := o0) (k := 3) I_2 q12 t_a13 (by decide) d_TrustDeskModel_factAt_39 (vp_in_iff.mpr (by omega)) (fun v24 e25 => ?_)
          have := kKR_2.a (k := 3) rfl (((4 * i5_2) + 1) : Int32).toNatClampNeg
          have h26 : ((4 * i5_2) + 1).toNatClampNeg = 4 * i5_2.toInt.toNat + 1 := by have := mz_nat9 (i := ((4 * i5_2) + 1)) (by omega); omega
          have : v24.toInt = f4 M0 o0 1 i5_2.toInt.toNat := by rw [e25, h26]; exact congrFun (kKS3_2 3 rfl) _
          refine mv_iload_n d_TrustDeskModel_factAt_40 rfl rfl ?_
          have := mz_hi v24
          have := mz_hi x2
          refine mv_icmp_gtZ (tgt := 97) (a := v24.toInt) (b := x2.toInt) d_TrustDeskModel_factAt_41 (by decide) rfl rfl (fun b27 => ?_) (fun b27 => ?_)
          · refine mv_iinc (v := (i5_2 + (-1))) (lv' := [(5, .int (i5_2 + (-1))), (4, .int i4_2), (0, .ref o0), (1, .int x1), (2, .int x2), (3, .int x3)]) d_TrustDeskModel_factAt_97 rfl rfl (by decide) rfl ?_
            obtain ⟨w28, h29, b30⟩ : ∃ w9 : Int32, (i5_2 + (-1)) = w9 ∧ w9.toInt = i5_2.toInt + (-1) := ⟨_, rfl, mz_add2 rfl (by decide) (by omega) (by omega)⟩
            rw [h29]
            clear h29
            refine mv_goto (tgt := 11) d_TrustDeskModel_factAt_100 (by decide) ?_
            exact (ih2 w28 i4_2 T_2 M_2 n_2 I_2 h_q0_2 (by first | omega | decide | exact fun h9 => absurd (by decide) h9) (by first | omega | decide | exact fun h9 => absurd (by decide) h9) (by first | omega | decide | exact fun h9 => absurd (by decide) h9) (by first | omega | decide | exact fun h9 => absurd (by decide) h9) (by first | omega | decide | exact fun h9 => absurd (by decide) h9) (rl.no iv5_2 (by omega) (by omega) (fun h7 h8 h9 => by omega)) kKR_2 kKS3_2 (by omega))
          · refine mv_aload_n d_TrustDeskModel_factAt_44 rfl rfl ?_
            refine tr_getK (k := 3) q12 d_TrustDeskModel_factAt_45 f_TrustDeskModel_13_13 ?_
            refine mv_iconst (v := 4) d_TrustDeskModel_factAt_48 (by decide) ?_
            refine mv_iload d_TrustDeskModel_factAt_49 rfl ?_
            refine mv_imul d_TrustDeskModel_factAt_51 ?_
            refine mv_iconst (v := 3) d_TrustDeskModel_factAt_52 (by decide) ?_
            refine mv_iadd d_TrustDeskModel_factAt_53 ?_
            have b31 : (4 * i5_2 : Int32).toInt = (4 * i5_2.toInt) := mz_mul2 (by decide) rfl (by omega) (by omega)
            have b32 : ((4 * i5_2) + 3 : Int32).toInt = ((4 * i5_2.toInt) + 3) := mz_add2 b31 (by decide) (by omega) (by omega)
            refine tr_ialdR (o := o0) (k := 3) I_2 q12 t_a13 (by decide) d_TrustDeskModel_factAt_54 (vp_in_iff.mpr (by omega)) (fun v33 e34 => ?_)
            have := kKR_2.a (k := 3) rfl (((4 * i5_2) + 3) : Int32).toNatClampNeg
            have h35 : ((4 * i5_2) + 3).toNatClampNeg = 4 * i5_2.toInt.toNat + 3 := by have := mz_nat9 (i := ((4 * i5_2) + 3)) (by omega); omega
            have : v33.toInt = f4 M0 o0 3 i5_2.toInt.toNat := by rw [e34, h35]; exact congrFun (kKS3_2 3 rfl) _
            refine mv_iload_n d_TrustDeskModel_factAt_55 rfl rfl ?_
            have := mz_hi v33
            have := mz_hi x3
            refine mv_icmp_leZ (tgt := 62) (a := v33.toInt) (b := x3.toInt) d_TrustDeskModel_factAt_56 (by decide) rfl rfl (fun b36 => ?_) (fun b36 => ?_)
            · refine mv_iload d_TrustDeskModel_factAt_62 rfl ?_
              refine mv_iconst (v := (-1)) d_TrustDeskModel_factAt_64 (by decide) ?_
              have := mz_hi i4_2
              refine mv_icmp_eqZ (tgt := 93) (a := i4_2.toInt) (b := (-1)) d_TrustDeskModel_factAt_65 (by decide) rfl (by decide) (fun b37 => ?_) (fun b37 => ?_)
              · refine mv_iload d_TrustDeskModel_factAt_93 rfl ?_
                refine mv_istore (lv' := [(4, .int i5_2), (5, .int i5_2), (0, .ref o0), (1, .int x1), (2, .int x2), (3, .int x3)]) d_TrustDeskModel_factAt_95 (by decide) rfl ?_
                refine mv_iinc (v := (i5_2 + (-1))) (lv' := [(5, .int (i5_2 + (-1))), (4, .int i5_2), (0, .ref o0), (1, .int x1), (2, .int x2), (3, .int x3)]) d_TrustDeskModel_factAt_97 rfl rfl (by decide) rfl ?_
                obtain ⟨w38, h39, b40⟩ : ∃ w9 : Int32, (i5_2 + (-1)) = w9 ∧ w9.toInt = i5_2.toInt + (-1) := ⟨_, rfl, mz_add2 rfl (by decide) (by omega) (by omega)⟩
                rw [h39]
                clear h39
                refine mv_goto (tgt := 11) d_TrustDeskModel_factAt_100 (by decide) ?_
                exact (ih2 w38 i5_2 T_2 M_2 n_2 I_2 h_q0_2 (by first | omega | decide | exact fun h9 => absurd (by decide) h9) (by first | omega | decide | exact fun h9 => absurd (by decide) h9) (by first | omega | decide | exact fun h9 => absurd (by decide) h9) (by first | omega | decide | exact fun h9 => absurd (by decide) h9) (by first | omega | decide | exact fun h9 => absurd (by decide) h9) (rl.take iv5_2 (by omega) (by omega) (by omega) (by omega) (by omega) (by omega) (by omega) (by omega)) kKR_2 kKS3_2 (by omega))
              · refine mv_aload_n d_TrustDeskModel_factAt_68 rfl rfl ?_
                refine tr_getK (k := 3) q12 d_TrustDeskModel_factAt_69 f_TrustDeskModel_13_13 ?_
                refine mv_iconst (v := 4) d_TrustDeskModel_factAt_72 (by decide) ?_
                refine mv_iload d_TrustDeskModel_factAt_73 rfl ?_
                refine mv_imul d_TrustDeskModel_factAt_75 ?_
                refine mv_iconst (v := 1) d_TrustDeskModel_factAt_76 (by decide) ?_
                refine mv_iadd d_TrustDeskModel_factAt_77 ?_
                have b41 : (4 * i5_2 : Int32).toInt = (4 * i5_2.toInt) := mz_mul2 (by decide) rfl (by omega) (by omega)
                have b42 : ((4 * i5_2) + 1 : Int32).toInt = ((4 * i5_2.toInt) + 1) := mz_add2 b41 (by decide) (by omega) (by omega)
                refine tr_ialdR (o := o0) (k := 3) I_2 q12 t_a13 (by decide) d_TrustDeskModel_factAt_78 (vp_in_iff.mpr (by omega)) (fun v43 e44 => ?_)
                have := kKR_2.a (k := 3) rfl (((4 * i5_2) + 1) : Int32).toNatClampNeg
                have h45 : ((4 * i5_2) + 1).toNatClampNeg = 4 * i5_2.toInt.toNat + 1 := by have := mz_nat9 (i := ((4 * i5_2) + 1)) (by omega); omega
                have : v43.toInt = f4 M0 o0 1 i5_2.toInt.toNat := by rw [e44, h45]; exact congrFun (kKS3_2 3 rfl) _
                refine mv_aload_n d_TrustDeskModel_factAt_79 rfl rfl ?_
                refine tr_getK (k := 3) q12 d_TrustDeskModel_factAt_80 f_TrustDeskModel_13_13 ?_
                refine mv_iconst (v := 4) d_TrustDeskModel_factAt_83 (by decide) ?_
                refine mv_iload d_TrustDeskModel_factAt_84 rfl ?_
                refine mv_imul d_TrustDeskModel_factAt_86 ?_
                refine mv_iconst (v := 1) d_TrustDeskModel_factAt_87 (by decide) ?_
                refine mv_iadd d_TrustDeskModel_factAt_88 ?_
                have b46 : (4 * i4_2 : Int32).toInt = (4 * i4_2.toInt) := mz_mul2 (by decide) rfl (by omega) (by omega)
                have b47 : ((4 * i4_2) + 1 : Int32).toInt = ((4 * i4_2.toInt) + 1) := mz_add2 b46 (by decide) (by omega) (by omega)
                refine tr_ialdR (o := o0) (k := 3) I_2 q12 t_a13 (by decide) d_TrustDeskModel_factAt_89 (vp_in_iff.mpr (by omega)) (fun v48 e49 => ?_)
                have := kKR_2.a (k := 3) rfl (((4 * i4_2) + 1) : Int32).toNatClampNeg
                have h50 : ((4 * i4_2) + 1).toNatClampNeg = 4 * i4_2.toInt.toNat + 1 := by have := mz_nat9 (i := ((4 * i4_2) + 1)) (by omega); omega
                have : v48.toInt = f4 M0 o0 1 i4_2.toInt.toNat := by rw [e49, h50]; exact congrFun (kKS3_2 3 rfl) _
                have := mz_hi v43
                have := mz_hi v48
                refine mv_icmp_leZ (tgt := 97) (a := v43.toInt) (b := v48.toInt) d_TrustDeskModel_factAt_90 (by decide) rfl rfl (fun b51 => ?_) (fun b51 => ?_)
                · refine mv_iinc (v := (i5_2 + (-1))) (lv' := [(5, .int (i5_2 + (-1))), (4, .int i4_2), (0, .ref o0), (1, .int x1), (2, .int x2), (3, .int x3)]) d_TrustDeskModel_factAt_97 rfl rfl (by decide) rfl ?_
                  obtain ⟨w52, h53, b54⟩ : ∃ w9 : Int32, (i5_2 + (-1)) = w9 ∧ w9.toInt = i5_2.toInt + (-1) := ⟨_, rfl, mz_add2 rfl (by decide) (by omega) (by omega)⟩
                  rw [h53]
                  clear h53
                  refine mv_goto (tgt := 11) d_TrustDeskModel_factAt_100 (by decide) ?_
                  exact (ih2 w52 i4_2 T_2 M_2 n_2 I_2 h_q0_2 (by first | omega | decide | exact fun h9 => absurd (by decide) h9) (by first | omega | decide | exact fun h9 => absurd (by decide) h9) (by first | omega | decide | exact fun h9 => absurd (by decide) h9) (by first | omega | decide | exact fun h9 => absurd (by decide) h9) (by first | omega | decide | exact fun h9 => absurd (by decide) h9) (rl.no iv5_2 (by omega) (by omega) (fun h7 h8 h9 => by omega)) kKR_2 kKS3_2 (by omega))
                · refine mv_iload d_TrustDeskModel_factAt_93 rfl ?_
                  refine mv_istore (lv' := [(4, .int i5_2), (5, .int i5_2), (0, .ref o0), (1, .int x1), (2, .int x2), (3, .int x3)]) d_TrustDeskModel_factAt_95 (by decide) rfl ?_
                  refine mv_iinc (v := (i5_2 + (-1))) (lv' := [(5, .int (i5_2 + (-1))), (4, .int i5_2), (0, .ref o0), (1, .int x1), (2, .int x2), (3, .int x3)]) d_TrustDeskModel_factAt_97 rfl rfl (by decide) rfl ?_
                  obtain ⟨w55, h56, b57⟩ : ∃ w9 : Int32, (i5_2 + (-1)) = w9 ∧ w9.toInt = i5_2.toInt + (-1) := ⟨_, rfl, mz_add2 rfl (by decide) (by omega) (by omega)⟩
                  rw [h56]
                  clear h56
                  refine mv_goto (tgt := 11) d_TrustDeskModel_factAt_100 (by decide) ?_
                  exact (ih2 w55 i5_2 T_2 M_2 n_2 I_2 h_q0_2 (by first | omega | decide | exact fun h9 => absurd (by decide) h9) (by first | omega | decide | exact fun h9 => absurd (by decide) h9) (by first | omega | decide | exact fun h9 => absurd (by decide) h9) (by first | omega | decide | exact fun h9 => absurd (by decide) h9) (by first | omega | decide | exact fun h9 => absurd (by decide) h9) (rl.take iv5_2 (by omega) (by omega) (by omega) (by omega) (by omega) (by omega) (by omega) (by omega)) kKR_2 kKS3_2 (by omega))
            · refine mv_goto (tgt := 97) d_TrustDeskModel_factAt_59 (by decide) ?_
              refine mv_iinc (v := (i5_2 + (-1))) (lv' := [(5, .int (i5_2 + (-1))), (4, .int i4_2), (0, .ref o0), (1, .int x1), (2, .int x2), (3, .int x3)]) d_TrustDeskModel_factAt_97 rfl rfl (by decide) rfl ?_
              obtain ⟨w58, h59, b60⟩ : ∃ w9 : Int32, (i5_2 + (-1)) = w9 ∧ w9.toInt = i5_2.toInt + (-1) := ⟨_, rfl, mz_add2 rfl (by decide) (by omega) (by omega)⟩
              rw [h59]
              clear h59
              refine mv_goto (tgt := 11) d_TrustDeskModel_factAt_100 (by decide) ?_
              exact (ih2 w58 i4_2 T_2 M_2 n_2 I_2 h_q0_2 (by first | omega | decide | exact fun h9 => absurd (by decide) h9) (by first | omega | decide | exact fun h9 => absurd (by decide) h9) (by first | omega | decide | exact fun h9 => absurd (by decide) h9) (by first | omega | decide | exact fun h9 => absurd (by decide) h9) (by first | omega | decide | exact fun h9 => absurd (by decide) h9) (rl.no iv5_2 (by omega) (by omega) (fun h7 h8 h9 => by omega)) kKR_2 kKS3_2 (by omega))
  have : ((-1) : Int32).toInt = (-1) := by decide
  have b61 : (c - 1 : Int32).toInt = (c.toInt - 1) := mz_sub2 rfl (by decide) (by omega) (by omega)
  exact mv_less (Nat.zero_le _) (Nat.zero_le _) (L11_2 4294967296 (c - 1) (-1) T0 M0 n0 I0 h_o0 (by first | omega | decide | exact fun h9 => absurd (by decide) h9) (by first | omega | decide | exact fun h9 => absurd (by decide) h9) (by first | omega | decide | exact fun h9 => absurd (by decide) h9) (by first | omega | decide | exact fun h9 => absurd (by decide) h9) (by first | omega | decide | exact fun h9 => absurd (by decide) h9) (rl.start (by omega) (by decide)) yR K1 (by omega))
set_option maxHeartbeats 100000000 in theorem tc_TrustDeskModel_factOf_y {g : mj_G} {l : Launch} {d : Nat} {T0 : tm_H} {M0 : mj_M} {n0 x9 : Nat} {o0 : Nat} {x1 : Int32} {x2 : Int32} {x3 : Int32} (h_o0 : T0 o0 = some (0, 13, 0)) (yR : rI M0 o0) {c : Int32} (y_c : tm_at M0 o0 13 2 (.int c)) {t : Int32} (y_t : tm_at M0 o0 13 1 (.int t)) (I0 : tm_I tm_FT (tm_in w_TrustDeskModel_factOf_x) x9 T0 M0 n0 T0 M0 n0) : mj_Met g l kY_TrustDeskModel_factOf (d + 1) [.ref o0, .int x1, .int x2, .int x3] M0 n0 0 0 (tm_Q tm_FT (tm_in w_TrustDeskModel_factOf_x) x9 T0 M0 n0 (fun r _ M => ∃ v : Int32, r = some (.int v) ∧ rI M o0 ∧ ((v = -1 ∧ ¬ (0 ≤ x1.toInt ∧ x1.toInt ≤ 7 ∧ 0 ≤ x2.toInt ∧ x2.toInt ≤ 100 ∧ 0 ≤ x3.toInt ∧ x3.toInt ≤ t.toInt)) ∨ ((0 ≤ x1.toInt ∧ x1.toInt ≤ 7 ∧ 0 ≤ x2.toInt ∧ x2.toInt ≤ 100 ∧ 0 ≤ x3.toInt ∧ x3.toInt ≤ t.toInt) ∧ fq (f4 M0 o0 0) (f4 M0 o0 1) (f4 M0 o0 2) (f4 M0 o0 3) c.toInt x1.toInt x2.toInt x3.toInt v.toInt)))) := by
  refine mj_enter (by decide) (Nat.le_of_ble_eq_true rfl) ?_
  have := yR.f (k := 2) y_c rfl
  have := yR.f (k := 1) y_t rfl
  have K1 : sA [3] M0 M0 o0 := sA.rf
  refine mv_aload_n d_TrustDeskModel_factOf_0 rfl rfl ?_
  refine mv_iconst (v := 0) d_TrustDeskModel_factOf_1 (by decide) ?_
  refine tr_putR (k := 0) I0 yR h_o0 rfl ⟨_, rfl⟩ (fun _ h => by cases h) rfl (fun lo hi h => by cases h) (Or.inl (by decide)) d_TrustDeskModel_factOf_2 p_TrustDeskModel_1_13 rfl rfl (fun M2 I3 q4 K5 R6 A7 V8 => ?_)
  have K9 : sA [3] M0 M2 o0 := K1.trans (sA_f A7 (by decide))
  refine mv_iload_n d_TrustDeskModel_factOf_5 rfl rfl ?_
  refine mv_i2l (v := x1.toInt64) d_TrustDeskModel_factOf_6 rfl ?_
  refine mv_lconst (v := 0) d_TrustDeskModel_factOf_7 (by decide) ?_
  refine mv_ldc2 d_TrustDeskModel_factOf_8 k_TrustDeskModel_167 ?_
  refine mv_callS (kc1 := 0) (ks1 := 0) (kc' := 0) (ks' := 0) (As := [.long x1.toInt64, .long 0, .long 7]) (st9 := [.long 7, .long 0, .long x1.toInt64]) d_TrustDeskModel_factOf_11 lS_TrustDeskModel_169 (mj_enter (by decide) (Nat.le_of_ble_eq_true rfl) ?_) rfl (Nat.le_of_ble_eq_true rfl) (Nat.le_of_ble_eq_true rfl) (Nat.le_of_ble_eq_true rfl) (hst := rfl) (fun _ _ _ h => h)
  refine mv_lload_n d_TrustDeskModel_within_0 rfl rfl ?_
  refine mv_lload_n d_TrustDeskModel_within_1 rfl rfl ?_
  refine mv_lltZ (tgt := 17) (a := x1.toInt) (b := 0) d_TrustDeskModel_within_2 d_TrustDeskModel_within_3 (by decide) (mz_wide _) (by decide) (fun b10 => ?_) (fun b10 => ?_)
  · refine mv_iconst (v := 0) d_TrustDeskModel_within_17 (by decide) ?_
    refine mv_iret d_TrustDeskModel_within_18 rfl (by decide) ?_
    refine mv_if_eq_t (tgt := 42) d_TrustDeskModel_factOf_14 (by decide) (by decide) ?_
    refine mv_iconst (v := (-1)) d_TrustDeskModel_factOf_42 (by decide) ?_
    exact mv_iret d_TrustDeskModel_factOf_43 rfl (by first | rfl | decide) ⟨_, I3, _, rfl, R6, (Or.inl ⟨rfl, (by omega)⟩)⟩
  · refine mv_lload_n d_TrustDeskModel_within_6 rfl rfl ?_
    refine mv_lload d_TrustDeskModel_within_7 rfl ?_
    refine mv_lgtZ (tgt := 17) (a := x1.toInt) (b := 7) d_TrustDeskModel_within_9 d_TrustDeskModel_within_10 (by decide) (mz_wide _) (by decide) (fun b11 => ?_) (fun b11 => ?_)
    · refine mv_iconst (v := 0) d_TrustDeskModel_within_17 (by decide) ?_
      refine mv_iret d_TrustDeskModel_within_18 rfl (by decide) ?_
      refine mv_if_eq_t (tgt := 42) d_TrustDeskModel_factOf_14 (by decide) (by decide) ?_
      refine mv_iconst (v := (-1)) d_TrustDeskModel_factOf_42 (by decide) ?_
      exact mv_iret d_TrustDeskModel_factOf_43 rfl (by first | rfl | decide) ⟨_, I3, _, rfl, R6, (Or.inl ⟨rfl, (by omega)⟩)⟩
    · refine mv_iconst (v := 1) d_TrustDeskModel_within_13 (by decide) ?_
      refine mv_goto (tgt := 18) d_TrustDeskModel_within_14 (by decide) ?_
      refine mv_iret d_TrustDeskModel_within_18 rfl (by decide) ?_
      refine mv_if_eq_f (tgt := 42) d_TrustDeskModel_factOf_14 (by decide) (by decide) ?_
      refine mv_iload_n d_TrustDeskModel_factOf_17 rfl rfl ?_
      refine mv_callS (kc1 := 0) (ks1 := 0) (kc' := 0) (ks' := 0) (As := [.int x2]) (st9 := [.int x2]) d_TrustDeskModel_factOf_18 lS_TrustDeskModel_173 (mj_enter (by decide) (Nat.le_of_ble_eq_true rfl) ?_) rfl (Nat.le_of_ble_eq_true rfl) (Nat.le_of_ble_eq_true rfl) (Nat.le_of_ble_eq_true rfl) (hst := rfl) (fun _ _ _ h => h)
      refine mv_iload_n d_TrustDeskModel_isYear_0 rfl rfl ?_
      have := mz_hi x2
      refine mv_if_ltZ (tgt := 14) (a := x2.toInt) d_TrustDeskModel_isYear_1 (by decide) rfl (fun b12 => ?_) (fun b12 => ?_)
      · refine mv_iconst (v := 0) d_TrustDeskModel_isYear_14 (by decide) ?_
        refine mv_iret d_TrustDeskModel_isYear_15 rfl (by decide) ?_
        refine mv_if_eq_t (tgt := 42) d_TrustDeskModel_factOf_21 (by decide) (by decide) ?_
        refine mv_iconst (v := (-1)) d_TrustDeskModel_factOf_42 (by decide) ?_
        exact mv_iret d_TrustDeskModel_factOf_43 rfl (by first | rfl | decide) ⟨_, I3, _, rfl, R6, (Or.inl ⟨rfl, (by omega)⟩)⟩
      · refine mv_iload_n d_TrustDeskModel_isYear_4 rfl rfl ?_
        refine mv_bipush (v := 100) d_TrustDeskModel_isYear_5 (by decide) ?_
        have := mz_hi x2
        refine mv_icmp_gtZ (tgt := 14) (a := x2.toInt) (b := 100) d_TrustDeskModel_isYear_7 (by decide) rfl (by decide) (fun b13 => ?_) (fun b13 => ?_)
        · refine mv_iconst (v := 0) d_TrustDeskModel_isYear_14 (by decide) ?_
          refine mv_iret d_TrustDeskModel_isYear_15 rfl (by decide) ?_
          refine mv_if_eq_t (tgt := 42) d_TrustDeskModel_factOf_21 (by decide) (by decide) ?_
          refine mv_iconst (v := (-1)) d_TrustDeskModel_factOf_42 (by decide) ?_
          exact mv_iret d_TrustDeskModel_factOf_43 rfl (by first | rfl | decide) ⟨_, I3, _, rfl, R6, (Or.inl ⟨rfl, (by omega)⟩)⟩
        · refine mv_iconst (v := 1) d_TrustDeskModel_isYear_10 (by decide) ?_
          refine mv_goto (tgt := 15) d_TrustDeskModel_isYear_11 (by decide) ?_
          refine mv_iret d_TrustDeskModel_isYear_15 rfl (by decide) ?_
          refine mv_if_eq_f (tgt := 42) d_TrustDeskModel_factOf_21 (by decide) (by decide) ?_
          refine mv_aload_n d_TrustDeskModel_factOf_24 rfl rfl ?_
          refine mv_iload_n d_TrustDeskModel_factOf_25 rfl rfl ?_
          obtain ⟨_, b14, -⟩ := I3.1 _ _ h_o0
          refine mv_callV (kc1 := 0) (ks1 := 0) (kc' := 0) (ks' := 0) (As := [.int x3]) (st9 := [.int x3, .ref o0]) d_TrustDeskModel_factOf_26 lV_TrustDeskModel_182 b14 rfl (mj_enter (by decide) (Nat.le_of_ble_eq_true rfl) ?_) rfl (Nat.le_of_ble_eq_true rfl) (Nat.le_of_ble_eq_true rfl) (Nat.le_of_ble_eq_true rfl) (hst := rfl) (fun _ _ _ h => h)
          refine mv_iload_n d_TrustDeskModel_isKnown_0 rfl rfl ?_
          have := mz_hi x3
          refine mv_if_ltZ (tgt := 16) (a := x3.toInt) d_TrustDeskModel_isKnown_1 (by decide) rfl (fun b15 => ?_) (fun b15 => ?_)
          · refine mv_iconst (v := 0) d_TrustDeskModel_isKnown_16 (by decide) ?_
            refine mv_iret d_TrustDeskModel_isKnown_17 rfl (by decide) ?_
            refine mv_if_eq_t (tgt := 42) d_TrustDeskModel_factOf_29 (by decide) (by decide) ?_
            refine mv_iconst (v := (-1)) d_TrustDeskModel_factOf_42 (by decide) ?_
            exact mv_iret d_TrustDeskModel_factOf_43 rfl (by first | rfl | decide) ⟨_, I3, _, rfl, R6, (Or.inl ⟨rfl, (by omega)⟩)⟩
          · refine mv_iload_n d_TrustDeskModel_isKnown_4 rfl rfl ?_
            refine mv_aload_n d_TrustDeskModel_isKnown_5 rfl rfl ?_
            refine tr_getK (k := 1) (K5 _ 13 1 _ rfl y_t) d_TrustDeskModel_isKnown_6 f_TrustDeskModel_164_13 ?_
            have := mz_hi x3
            have := mz_hi t
            refine mv_icmp_gtZ (tgt := 16) (a := x3.toInt) (b := t.toInt) d_TrustDeskModel_isKnown_9 (by decide) rfl rfl (fun b16 => ?_) (fun b16 => ?_)
            · refine mv_iconst (v := 0) d_TrustDeskModel_isKnown_16 (by decide) ?_
              refine mv_iret d_TrustDeskModel_isKnown_17 rfl (by decide) ?_
              refine mv_if_eq_t (tgt := 42) d_TrustDeskModel_factOf_29 (by decide) (by decide) ?_
              refine mv_iconst (v := (-1)) d_TrustDeskModel_factOf_42 (by decide) ?_
              exact mv_iret d_TrustDeskModel_factOf_43 rfl (by first | rfl | decide) ⟨_, I3, _, rfl, R6, (Or.inl ⟨rfl, (by omega)⟩)⟩
            · refine mv_iconst (v := 1) d_TrustDeskModel_isKnown_12 (by decide) ?_
              refine mv_goto (tgt := 17) d_TrustDeskModel_isKnown_13 (by decide) ?_
              refine mv_iret d_TrustDeskModel_isKnown_17 rfl (by decide) ?_
              refine mv_if_eq_f (tgt := 42) d_TrustDeskModel_factOf_29 (by decide) (by decide) ?_
              refine mv_aload_n d_TrustDeskModel_factOf_32 rfl rfl ?_
              refine mv_iload_n d_TrustDeskModel_factOf_33 rfl rfl ?_
              refine mv_iload_n d_TrustDeskModel_factOf_34 rfl rfl ?_
              refine mv_iload_n d_TrustDeskModel_factOf_35 rfl rfl ?_
              obtain ⟨_, b23, -⟩ := I3.1 _ _ h_o0
              refine mv_callV (kc' := 0) (ks' := 0) (As := [.int x1, .int x2, .int x3]) (st9 := [.int x3, .int x2, .int x1, .ref o0]) d_TrustDeskModel_factOf_36 lV_TrustDeskModel_185 b23 rfl (tc_TrustDeskModel_factAt_y (d := d) (x9 := x9) (o0 := o0) (x1 := x1) (x2 := x2) (x3 := x3) h_o0 R6 (K5 _ 13 2 _ rfl y_c) I3.start) rfl (Nat.le_of_ble_eq_true rfl) (Nat.le_of_ble_eq_true rfl) (Nat.le_of_ble_eq_true rfl) (hst := rfl) (fun b17r M18 n19 b17 => ?_)
              obtain ⟨T20, J21, v24, rfl, R25, f26, f27⟩ := b17
              have I22 := I3.call J21 (tm_sub (by decide)) (Or.inl rfl)
              have t28 := J21.up h_o0
              have K29 : sA [3] M0 M18 o0 := K9.trans (sA_c I3 J21 (I3.up h_o0) (by decide +kernel))
              have q30 := J21.keep h_o0 (by decide) (K5 _ 13 2 _ rfl y_c)
              have q31 := J21.keep h_o0 (by decide) (K5 _ 13 1 _ rfl y_t)
              have q32 := J21.keep h_o0 (by decide) q4
              refine mv_goto (tgt := 43) d_TrustDeskModel_factOf_39 (by decide) ?_
              exact mv_iret d_TrustDeskModel_factOf_43 rfl (by first | rfl | decide) ⟨_, I22, _, rfl, R25, (Or.inr ⟨(by omega), (by have e8 : ∀ q, f4 M0 o0 q = f4 M2 o0 q := (fun q => funext fun i => (congrFun (K9 3 rfl) (4 * i + q)).symm); rw [e8 0, e8 1, e8 2, e8 3]; exact f27)⟩)⟩
/-- THE FACTS TOLD, the same in both, in the order of their days -/
def lx_K (T : tm_H) (M : mj_M) (_n : Nat) (t : Int32) : Prop := ∃ (F : Nat) (c : Int32), T F = some (0, 5, 0) ∧ tm_at M 64 12 0 (.ref F) ∧ tm_at M F 5 4 (.int c) ∧ tm_at M 99 13 2 (.int c) ∧ (0 ≤ c.toInt ∧ c.toInt ≤ 300) ∧ (∀ i : Nat, (i : Int) < c.toInt → ra M F 0 i = f4 M 99 0 i ∧ ra M F 1 i = f4 M 99 1 i ∧ ra M F 2 i = f4 M 99 2 i ∧ ra M F 3 i = f4 M 99 3 i ∧ ra M F 3 i ≤ t.toInt) ∧ ∀ i j : Nat, i ≤ j → (j : Int) < c.toInt → ra M F 3 i ≤ ra M F 3 j
def lx_bK (k : Nat) : Bool := (Nat.ble 500 k && Nat.ble k 504) || (Nat.ble 550 k && Nat.ble k 553) || Nat.beq k 1200 || Nat.beq k 1302 || Nat.beq k 1303 || Nat.beq k 20003
theorem lx_b5 {q : Nat} (h : q < 4) : lx_bK (500 + q) = true ∧ lx_bK (550 + q) = true := by
  rcases (show q = 0 ∨ q = 1 ∨ q = 2 ∨ q = 3 by omega) with rfl | rfl | rfl | rfl <;> exact ⟨rfl, rfl⟩
def lx_bK9 (k : Nat) : Bool := (Nat.ble 500 k && Nat.ble k 503) || (Nat.ble 550 k && Nat.ble k 553)
theorem lx_b59 {q : Nat} (h : q < 4) : lx_bK9 (500 + q) = true ∧ lx_bK9 (550 + q) = true := by
  rcases (show q = 0 ∨ q = 1 ∨ q = 2 ∨ q = 3 by omega) with rfl | rfl | rfl | rfl <;> exact ⟨rfl, rfl⟩
section LK
variable {W : Nat → Bool} {x n n1 n2 Lf F : Nat} {T T1 T2 : tm_H} {M M1 M2 : mj_M} {t u t9 t1 c x1 x2 x3 : Int32}
theorem lx_f4 (h : lx_I T M n Lf t u) (J : tm_I tm_FT W x T M n T1 M1 n1) (w1 : W 1303 = false) (w2 : W 20003 = false) (q i : Nat) : f4 M1 99 q i = f4 M 99 q i := ra_call h.1 J h.2.2.1 rfl w1 w2 _
theorem lx_Kkeep (h : lx_I T M n Lf t u) (J : tm_I tm_FT W x T M n T1 M1 n1) (hW : ∀ k, lx_bK k = true → W k = false) (k : lx_K T M n t9) : lx_K T1 M1 n1 t9 := by
  obtain ⟨F, c, h1, h2, h3, h4, h5, h7, h8⟩ := k
  have e0 : ∀ q, q < 4 → ∀ i, ra M1 F q i = ra M F q i := fun q hq i => ra_F h.1 J h1 hq (hW _ (lx_b5 hq).1) (hW _ (lx_b5 hq).2) i
  have e1 : ∀ q i, f4 M1 99 q i = f4 M 99 q i := fun q i => lx_f4 h J (hW 1303 rfl) (hW 20003 rfl) q i
  refine ⟨F, c, J.up h1, J.keep h.2.1 (hW 1200 rfl) h2, J.keep h1 (hW 504 rfl) h3, J.keep h.2.2.1 (hW 1302 rfl) h4, h5, fun i hi => ?_, fun i j hij hj => ?_⟩
  · rw [e0 0 (by decide), e0 1 (by decide), e0 2 (by decide), e0 3 (by decide), e1, e1, e1, e1]
    exact h7 i hi
  · rw [e0 3 (by decide), e0 3 (by decide)]
    exact h8 i j hij hj
theorem lx_Kt (h : t.toInt ≤ t1.toInt) (k : lx_K T M n t) : lx_K T M n t1 := by
  obtain ⟨F, c, h1, h2, h3, h4, h5, h7, h8⟩ := k
  refine ⟨F, c, h1, h2, h3, h4, h5, fun i hi => ?_, h8⟩
  obtain ⟨a1, a2, a3, a4, a5⟩ := h7 i hi
  exact ⟨a1, a2, a3, a4, by omega⟩
/-- one more -/
theorem lx_Kone (c0 : 0 ≤ c.toInt) (c1 : c.toInt < 300) (old : ∀ i : Nat, (i : Int) < c.toInt → ra M F 0 i = f4 M 99 0 i ∧ ra M F 1 i = f4 M 99 1 i ∧ ra M F 2 i = f4 M 99 2 i ∧ ra M F 3 i = f4 M 99 3 i ∧ ra M F 3 i ≤ t.toInt) (so : ∀ i j : Nat, i ≤ j → (j : Int) < c.toInt → ra M F 3 i ≤ ra M F 3 j) (a0 : ∀ j, ra M1 F 0 j = if j = c.toNatClampNeg then x1.toInt else ra M F 0 j) (a1 : ∀ j, ra M1 F 1 j = if j = c.toNatClampNeg then x2.toInt else ra M F 1 j) (a2 : ∀ j, ra M1 F 2 j = if j = c.toNatClampNeg then x3.toInt else ra M F 2 j) (a3 : ∀ j, ra M1 F 3 j = if j = c.toNatClampNeg then t.toInt else ra M F 3 j) (r : ∀ j : Nat, ra M2 99 3 j = if (j : Int) = 4 * c.toInt + 3 then t.toInt else if (j : Int) = 4 * c.toInt + 2 then x3.toInt else if (j : Int) = 4 * c.toInt + 1 then x2.toInt else if (j : Int) = 4 * c.toInt + 0 then x1.toInt else ra M1 99 3 j) (eF : ∀ q, q < 4 → ∀ i, ra M2 F q i = ra M1 F q i) (e3 : ∀ q i, f4 M1 99 q i = f4 M 99 q i) : (∀ i : Nat, (i : Int) < (c + 1).toInt → ra M2 F 0 i = f4 M2 99 0 i ∧ ra M2 F 1 i = f4 M2 99 1 i ∧ ra M2 F 2 i = f4 M2 99 2 i ∧ ra M2 F 3 i = f4 M2 99 3 i ∧ ra M2 F 3 i ≤ t.toInt) ∧ ∀ i j : Nat, i ≤ j → (j : Int) < (c + 1).toInt → ra M2 F 3 i ≤ ra M2 F 3 j := by
  have hc : (c + 1 : Int32).toInt = c.toInt + 1 := mz_addn 1 1 (by decide) (by omega) (by omega)
  have hn := mz_nat9 c0
  rw [hc]
  have ef : ∀ q i, f4 M1 99 q i = ra M1 99 3 (4 * i + q) := fun _ _ => rfl
  refine ⟨fun i hi => ?_, fun i j hij hj => ?_⟩
  · rw [eF 0 (by decide), eF 1 (by decide), eF 2 (by decide), eF 3 (by decide), a0, a1, a2, a3]
    unfold f4
    rw [r, r, r, r]
    by_cases h : i = c.toNatClampNeg
    · rw [if_pos h, if_pos h, if_pos h, if_pos h, if_neg (by omega), if_neg (by omega), if_neg (by omega), if_pos (by omega), if_neg (by omega), if_neg (by omega), if_pos (by omega), if_neg (by omega), if_pos (by omega), if_pos (by omega)]
      exact ⟨rfl, rfl, rfl, rfl, Int.le_refl _⟩
    · rw [if_neg h, if_neg h, if_neg h, if_neg h, if_neg (by omega), if_neg (by omega), if_neg (by omega), if_neg (by omega), if_neg (by omega), if_neg (by omega), if_neg (by omega), if_neg (by omega), if_neg (by omega), if_neg (by omega), if_neg (by omega), if_neg (by omega), if_neg (by omega), if_neg (by omega), if_neg (by omega), if_neg (by omega)]
      rw [← ef, ← ef, ← ef, ← ef, e3, e3, e3, e3]
      exact old i (by omega)
  · rw [eF 3 (by decide), eF 3 (by decide), a3, a3]
    by_cases h : i = c.toNatClampNeg
    · rw [if_pos h, if_pos (by omega)]
      exact Int.le_refl _
    · rw [if_neg h]
      by_cases h2 : j = c.toNatClampNeg
      · rw [if_pos h2]
        exact (old i (by omega)).2.2.2.2
      · rw [if_neg h2]
        exact so i j hij (by omega)
end LK
