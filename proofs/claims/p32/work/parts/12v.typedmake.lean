/-! TYPED: what is made, lists added to, rows copied -/
section TL
variable {FT : Nat → List tm_F} {W : Nat → Bool} {x n0 n : Nat} {T0 T : tm_H} {M0 M : mj_M}
/-- a list's row and cell written, or a new row -/
theorem tm_I.lst (hF : tm_ok FT) (I : tm_I FT W x T0 M0 n0 T M n) {a c o e1 : Nat} {T1 : tm_H} {M1 : mj_M} {n1 : Nat} (ta : T a = some (3, c, o)) (hW : W (5000 + c) = true) (he : (T e1 = some (4, a, c) ∧ T1 = T ∧ n1 = n) ∨ (e1 = n ∧ T1 = (fun b => if b = n then some (4, a, c) else T b) ∧ n1 = n + 1)) (hM : ∀ b, b ≠ a → b ≠ e1 → M1 b = M b) (hc : tm_c FT T1 M1 a (3, c, o)) : tm_I FT W x T0 M0 n0 T1 M1 n1 := by
  obtain ⟨i1, i2, i3, i4, i5, i6, i7, i8⟩ := I
  have up : ∀ b t, T b = some t → T1 b = some t := by
    intro b t hb
    rcases he with ⟨-, rfl, -⟩ | ⟨-, rfl, -⟩
    · exact hb
    · have := (i2 b t hb).2
      exact (if_neg (by omega)).trans hb
  have dn : ∀ b, b ≠ e1 → T1 b = T b := by
    intro b hb
    rcases he with ⟨-, rfl, -⟩ | ⟨rfl, rfl, -⟩
    · rfl
    · exact if_neg hb
  have te : T1 e1 = some (4, a, c) := by
    rcases he with ⟨h, rfl, -⟩ | ⟨rfl, rfl, -⟩
    · exact h
    · exact if_pos rfl
  have hn1 : n ≤ n1 := by
    rcases he with ⟨-, -, rfl⟩ | ⟨-, -, rfl⟩ <;> omega
  have he1 : 64 ≤ e1 ∧ e1 < n1 := by
    rcases he with ⟨h, -, rfl⟩ | ⟨rfl, -, rfl⟩
    · exact i2 _ _ h
    · exact ⟨by omega, by omega⟩
  have hold : ∀ b, T b = some (4, a, c) ∨ T b = none → b < n → b ≠ a := by
    intro b hb _ h
    subst h
    rcases hb with hb | hb <;> (rw [ta] at hb; cases hb)
  refine ⟨fun b t hb => ?_, fun b t hb => ?_, i3, Nat.le_trans i4 hn1, i5, fun b hb => ?_, fun b t hb => ?_, fun b hb ht => ?_⟩
  · by_cases e : b = a
    · subst e
      cases (up _ _ ta).symm.trans hb
      exact hc
    · by_cases e2 : b = e1
      · subst e2
        cases te.symm.trans hb
        trivial
      · rw [dn b e2] at hb
        refine (i1 b t hb).mono hF (fun b t h _ => up b t h) (hM b e e2) (fun e9 h9 => hM e9 (fun h => ?_) (fun h => ?_))
        · subst h
          rw [ta] at h9
          cases h9
        · subst h
          rcases he with ⟨h, -, -⟩ | ⟨h, -, -⟩
          · rw [h] at h9
            cases h9
            exact e rfl
          · have := (i2 _ _ h9).2
            omega
  · by_cases e2 : b = e1
    · subst e2
      exact he1
    · rw [dn b e2] at hb
      exact ⟨(i2 b t hb).1, Nat.lt_of_lt_of_le (i2 b t hb).2 hn1⟩
  · rcases he with ⟨-, rfl, -⟩ | ⟨-, rfl, -⟩
    · exact i6 b hb
    · exact (if_neg (by omega)).trans (i6 b hb)
  · have hb0 := i5 b t hb
    have h7 := i7 b t hb
    have hTb : T b = some t := (i6 b hb0).trans hb
    by_cases e : b = a
    · subst e
      cases ta.symm.trans hTb
      intro h
      rw [show 5000 + (3, c, o).2.1 = 5000 + c from rfl, hW] at h
      cases h
    · by_cases e2 : b = e1
      · subst e2
        rcases he with ⟨h, -, -⟩ | ⟨h, -, -⟩
        · cases h.symm.trans hTb
          intro h
          rw [show 5000 + (4, a, c).2.2 = 5000 + c from rfl, hW] at h
          cases h
        · omega
      · have e9 : M1 b = M b := hM b e e2
        obtain ⟨k, p, q⟩ := t
        match k with
        | 0 =>
          intro fs hf
          obtain ⟨fs1, e1, e2⟩ := h7 fs hf
          exact ⟨fs1, e9.trans e1, e2⟩
        | 1 => exact fun hk => e9.trans (h7 hk)
        | 2 => exact e9.trans h7
        | 3 => exact fun hk => e9.trans (h7 hk)
        | 4 => exact fun hk => e9.trans (h7 hk)
        | k + 5 => exact fun hk => e9.trans (h7 hk)
  · refine (hM b (fun h => ?_) (fun h => ?_)).trans (i8 b hb ht)
    · subst h
      have h9 := (i6 _ hb).symm.trans ta
      rw [ht] at h9
      cases h9
    · subst h
      rcases he with ⟨h, -, -⟩ | ⟨h, -, -⟩
      · have h9 := (i6 _ hb).symm.trans h
        rw [ht] at h9
        cases h9
      · omega
/-- behind an add -/
theorem tm_addQ (hF : tm_ok FT) (I : tm_I FT W x T0 M0 n0 T0 M0 n0) {a b c o e N e1 N1 : Nat} {m m1 k : Int32} {f f1 : Nat → Option Nat} {M2 : mj_M} {n2 : Nat} (ta : T0 a = some (3, c, o)) (tb : T0 b = some (0, c, 0)) (hls : tm_ls T0 M0 a c m k e N f) (hk : k.toInt < (tm_mx c : Int)) (hW : W (5000 + c) = true) (he : (e1 = e ∧ T0 e = some (4, a, c) ∧ n2 = n0) ∨ (e1 = n0 ∧ n2 = n0 + 1)) (hL : M2 a = some (mj_li m1 e1 (k + 1))) (hE : M2 e1 = some (mj_ro N1 f1)) (hN : k.toInt < (N1 : Int)) (hN1 : N1 ≤ 2 * tm_mx c + 10) (hmx : tm_mx c ≤ 72) (hold : ∀ j : Nat, (j : Int) < k.toInt → f1 j = f j) (hnew : f1 k.toNatClampNeg = some b) (hM : ∀ q, q ≠ a → q ≠ e1 → M2 q = M0 q) : ∃ T2, tm_I FT W x T0 M0 n0 T2 M2 n2 ∧ tm_at M2 a 0 2 (.int (k + 1)) := by
  obtain ⟨h1, h2, h3, h4, h5, h6, h7⟩ := hls
  have hk1 : (k + 1).toInt = k.toInt + 1 := by
    have h := Int32.toInt_add k 1
    rw [show (1 : Int32).toInt = 1 from rfl] at h
    rw [h]
    exact fb_bmod32 (by omega) (by omega)
  have hkn := mz_nat9 h2
  have hcl : ∀ T2 : tm_H, (∀ b t, T0 b = some t → T2 b = some t) → T2 e1 = some (4, a, c) → tm_c FT T2 M2 a (3, c, o) := by
    intro T2 up te
    refine ⟨m1, k + 1, e1, N1, f1, hL, by omega, by show (k + 1).toInt ≤ (tm_mx c : Int); omega, by omega, hN1, Or.inr ⟨te, hE, by omega⟩, fun j hj => ?_⟩
    by_cases hj2 : (j : Int) < k.toInt
    · obtain ⟨b1, e9, e10⟩ := h7 j hj2
      exact ⟨b1, (hold j hj2).trans e9, up _ _ e10⟩
    · have hj3 : j = k.toNatClampNeg := by omega
      subst hj3
      exact ⟨b, hnew, up _ _ tb⟩
  rcases he with ⟨rfl, te, rfl⟩ | ⟨rfl, rfl⟩
  · exact ⟨T0, I.lst hF ta hW (Or.inl ⟨te, rfl, rfl⟩) hM (hcl T0 (fun _ _ h => h) te), _, hL, rfl⟩
  · refine ⟨(fun b => if b = e1 then some (4, a, c) else T0 b), I.lst hF ta hW (Or.inr ⟨rfl, rfl, rfl⟩) hM (hcl _ (fun b t h => ?_) (if_pos rfl)), _, hL, rfl⟩
    have := (I.2.1 b t h).2
    exact (if_neg (by omega)).trans h
/-- a list's length is known: its parts -/
theorem tm_lsn (I : tm_I FT W x T0 M0 n0 T M n) {a c o : Nat} {k : Int32} (ta : T a = some (3, c, o)) (h : tm_at M a 0 2 (.int k)) : ∃ (m : Int32) (e N : Nat) (f : Nat → Option Nat), tm_ls T M a c m k e N f := by
  obtain ⟨m, k1, e, N, f, q⟩ := I.1 a _ ta
  obtain ⟨fs, e1, e2⟩ := h
  cases q.1.symm.trans e1
  cases e2
  exact ⟨m, e, N, f, q⟩
theorem tm_I.keepL (J : tm_I FT W x T0 M0 n0 T M n) {b c o : Nat} {w : Value} (tb : T0 b = some (3, c, o)) (hW : W (5000 + c) = false) (h : tm_at M0 b 0 2 w) : tm_at M b 0 2 w := by
  obtain ⟨fs, e1, e2⟩ := h
  exact ⟨fs, (J.2.2.2.2.2.2.1 b _ tb hW).trans e1, e2⟩
end TL
set_option maxHeartbeats 1000000 in
theorem tc_AL_addT {g : mj_G} {l : Launch} {d n0 x a b c o : Nat} {T0 : tm_H} {M0 : mj_M} {FT : Nat → List tm_F} {W : Nat → Bool} {n : Int32} {C : String} {T9 : u_T} {N9 : Nat} (hF : tm_ok FT) (ta : T0 a = some (3, c, o)) (tb : T0 b = some (0, c, 0)) (hlen : tm_at M0 a 0 2 (.int n)) (hn : n.toInt < (tm_mx c : Int)) (hW : W (5000 + c) = true) (hc : kcl[c]? = some (C, T9, N9)) (hca : Cond.castable C "java/lang/Object" ∈ mj_T) (hc0 : c ≠ 0) (hmx : tm_mx c ≤ 72) (I0 : tm_I FT W x T0 M0 n0 T0 M0 n0) : mj_Met g l kY_ArrayList_add_0 (d + 6) [.ref a, .ref b] M0 n0 1 (2 * tm_mx c + 10) (tm_Q FT W x T0 M0 n0 (fun r _ M => r = some (.int 1) ∧ tm_at M a 0 2 (.int (n + 1)))) := by
  obtain ⟨m, e, N, f, hls⟩ := tm_lsn I0 ta hlen
  have hls0 := hls
  obtain ⟨h1, h2, h3, h4, h5, h6, h7⟩ := hls
  obtain ⟨vs, hb, -⟩ := I0.1 b _ tb
  have hax := (I0.2.1 a _ ta).2
  have hbx := (I0.2.1 b _ tb).2
  have hba : b ≠ a := fun h => by subst h; rw [ta] at tb; cases tb
  have hnn := mz_nat9 h2
  refine mj_enter (by decide) (Nat.le_of_ble_eq_true rfl) ?_
  refine mv_aload_n d_ArrayList_add_0_0 rfl rfl ?_
  refine mv_dup d_ArrayList_add_0_1 rfl ?_
  refine mv_get d_ArrayList_add_0_2 f_ArrayList_63_0 h1 rfl ?_
  refine mv_iconst (v := 1) d_ArrayList_add_0_5 (by decide) ?_
  refine mv_iadd d_ArrayList_add_0_6 ?_
  refine mv_put (fs' := [.int (m + 1), .ref e, .int n]) d_ArrayList_add_0_7 p_ArrayList_63_0 h1 (Nat.le_of_ble_eq_true rfl) rfl rfl rfl ?_
  refine mv_aload_n d_ArrayList_add_0_10 rfl rfl ?_
  refine mv_aload_n d_ArrayList_add_0_11 rfl rfl ?_
  refine mv_aload_n d_ArrayList_add_0_12 rfl rfl ?_
  refine mv_get d_ArrayList_add_0_13 f_ArrayList_9_0 (mj_up_self _ _ _) rfl ?_
  refine mv_aload_n d_ArrayList_add_0_16 rfl rfl ?_
  refine mv_get d_ArrayList_add_0_17 f_ArrayList_48_0 (mj_up_self _ _ _) rfl ?_
  rcases h6 with ⟨rfl, rfl⟩ | ⟨te, hE, hN1⟩
  · have hz : n = 0 := Int32.toInt_inj.mp (by rw [mz_0]; omega)
    subst hz
    refine mv_callV_n (kc' := 0) (ks' := 0) [.ref b, .ref 0, .int 0] [.int 0, .ref 0, .ref b, .ref a] d_ArrayList_add_0_20 lV_ArrayList_131 (mj_up_self _ _ _) rfl (tc_AL_a3z (d := d + 2) (mj_up_self _ _ _) hax hbx hc hca ((mj_up_ne _ _ hba).trans hb) hc0) rfl (Nat.le_of_ble_eq_true rfl) (Nat.le_refl _) (by omega) rfl ?_
    refine mv_iconst (v := 1) d_ArrayList_add_0_23 (by decide) ?_
    obtain ⟨T2, I2, hl2⟩ := tm_addQ hF I0 (e1 := n0) (N1 := 10) (f1 := va_up (fun _ => none) 0 (some b)) (n2 := n0 + 1) ta tb hls0 hn hW (Or.inr ⟨rfl, rfl⟩) (mj_up_self _ _ _) ((mj_up_ne _ _ (Ne.symm (Nat.ne_of_lt hax))).trans (mj_up_self _ _ _)) (by decide) (by omega) hmx (fun j hj => absurd hj (by rw [mz_0]; omega)) rfl (fun q h8 h9 => (mj_up_ne _ _ h8).trans ((mj_up_ne _ _ h9).trans ((mj_up_ne _ _ h8).trans ((mj_up_ne _ _ h9).trans (mj_up_ne _ _ h8)))))
    exact mv_iret d_ArrayList_add_0_24 rfl (by decide) ⟨T2, I2, rfl, hl2⟩
  · have hex := (I0.2.1 e _ te).2
    have hea : e ≠ a := fun h => by subst h; rw [ta] at te; cases te
    by_cases hfull : n.toInt = (N : Int)
    · have hz : n = nI N := Int32.toInt_inj.mp (by rw [nI_toInt (by omega)]; exact hfull)
      subst hz
      have hN : N < 81 := by omega
      obtain ⟨g1, g2, g3, g4⟩ := mj_gl_ok N hN hN1
      have hcN := mz_clampI hfull
      refine mv_callV_n (kc' := 0) (ks' := 0) [.ref b, .ref e, .int (nI N)] [.int (nI N), .ref e, .ref b, .ref a] d_ArrayList_add_0_20 lV_ArrayList_131 (mj_up_self _ _ _) rfl (tc_AL_a3g (d := d) (mj_up_self _ _ _) ((mj_up_ne _ _ hea).trans hE) hex hax hbx hN hN1 hc hca ((mj_up_ne _ _ hba).trans hb) hc0 (fun i hi b1 hb1 => ?_)) rfl (Nat.le_of_ble_eq_true rfl) (Nat.le_refl _) (by omega) rfl ?_
      · obtain ⟨b2, e9, e10⟩ := h7 i (by omega)
        cases hb1.symm.trans e9
        obtain ⟨fs2, hb2, -⟩ := I0.1 _ _ e10
        exact ⟨(I0.2.1 _ _ e10).2, fs2, (mj_up_ne _ _ (fun h => by subst h; rw [ta] at e10; cases e10)).trans hb2⟩
      refine mv_iconst (v := 1) d_ArrayList_add_0_23 (by decide) ?_
      obtain ⟨T2, I2, hl2⟩ := tm_addQ hF I0 (e1 := n0) (N1 := (mj_gl N).toNatClampNeg) (f1 := va_up (va_cpy f (fun _ => none) 0 0 N) N (some b)) (n2 := n0 + 1) ta tb hls0 hn hW (Or.inr ⟨rfl, rfl⟩) (mj_up_self _ _ _) ((mj_up_ne _ _ (Ne.symm (Nat.ne_of_lt hax))).trans (mj_up_self _ _ _)) (by omega) (by omega) hmx (fun j hj => by unfold va_up va_cpy; rw [if_neg (by omega), if_pos ⟨Nat.zero_le _, by omega⟩, Nat.zero_add, Nat.sub_zero]) (by rw [hcN]; unfold va_up; rw [if_pos rfl]) (fun q h8 h9 => (mj_up_ne _ _ h8).trans ((mj_up_ne _ _ h9).trans ((mj_up_ne _ _ h8).trans ((mj_up_ne _ _ h9).trans (mj_up_ne _ _ h8)))))
      exact mv_iret d_ArrayList_add_0_24 rfl (by decide) ⟨T2, I2, rfl, hl2⟩
    · refine mv_callV_n (kc' := 1) (ks' := 2 * tm_mx c + 10) [.ref b, .ref e, .int n] [.int n, .ref e, .ref b, .ref a] d_ArrayList_add_0_20 lV_ArrayList_131 (mj_up_self _ _ _) rfl (tc_AL_a3r (d := d + 5) (mj_up_self _ _ _) ((mj_up_ne _ _ hea).trans hE) h2 (by omega) (by omega) hc hca ((mj_up_ne _ _ hba).trans hb)) rfl (Nat.le_of_ble_eq_true rfl) (Nat.le_refl _) (Nat.le_refl _) rfl ?_
      refine mv_iconst (v := 1) d_ArrayList_add_0_23 (by decide) ?_
      obtain ⟨T2, I2, hl2⟩ := tm_addQ hF I0 (e1 := e) (N1 := N) (f1 := va_up f n.toNatClampNeg (some b)) (n2 := n0) ta tb hls0 hn hW (Or.inl ⟨rfl, te, rfl⟩) (mj_up_self _ _ _) ((mj_up_ne _ _ hea).trans (mj_up_self _ _ _)) (by omega) (by omega) hmx (fun j hj => by unfold va_up; rw [if_neg (by omega)]) (by unfold va_up; rw [if_pos rfl]) (fun q h8 h9 => (mj_up_ne _ _ h8).trans ((mj_up_ne _ _ h9).trans (mj_up_ne _ _ h8)))
      exact mv_iret d_ArrayList_add_0_24 rfl (by decide) ⟨T2, I2, rfl, hl2⟩
/-- a row of ints made -/
theorem tm_I.row {FT : Nat → List tm_F} {W : Nat → Bool} {x n0 nx : Nat} {T0 T : tm_H} {M0 M : mj_M} (hF : tm_ok FT) (I : tm_I FT W x T0 M0 n0 T M nx) {N : Nat} {f : Nat → Int32} (hN : N ≤ 400) : tm_I FT W x T0 M0 n0 (fun b => if b = nx then some (2, 0, 0) else T b) (mj_up M nx (.inl (0, N, .inl f))) (nx + 1) := by
  refine I.at hF (fun b hb => if_neg hb) (if_pos rfl) (fun b hb => mj_up_ne M _ hb) (Nat.le_succ _) (Nat.lt_succ_self _) I.2.2.2.1 (fun t ht => ?_) ⟨N, f, hN, mj_up_self _ _ _⟩
  have := (I.2.1 _ _ ht).2
  omega
theorem tc_A_copyi {g : mj_G} {l : Launch} {d n0 x a E : Nat} {T0 : tm_H} {M0 : mj_M} {FT : Nat → List tm_F} {W : Nat → Bool} {n : Int32} (hF : tm_ok FT) (ta : T0 a = some (1, E, 400)) (hE : E % 8 = 0) (h0 : 0 ≤ n.toInt) (h1 : n.toInt ≤ 400) (I0 : tm_I FT W x T0 M0 n0 T0 M0 n0) : mj_Met g l kY_Arrays_copyOf_0 (d + 1) [.ref a, .int n] M0 n0 1 400 (tm_Q FT W x T0 M0 n0 (fun r T _ => ∃ b, r = some (.ref b) ∧ T b = some (2, 0, 0))) := by
  obtain ⟨f, hm⟩ := tm_arrI I0 ta (by omega)
  rw [hE] at hm
  have hax := (I0.2.1 a _ ta).2
  have hnn := mz_nat9 h0
  have hn0 : ¬ n < 0 := by rw [Int32.lt_iff_toInt_lt, mz_0]; omega
  refine mj_enter (by decide) (Nat.le_of_ble_eq_true rfl) ?_
  refine mv_iload_n d_Arrays_copyOf_0_0 rfl rfl ?_
  refine mv_aload_n d_Arrays_copyOf_0_1 rfl rfl ?_
  refine mv_alen (v := 400) d_Arrays_copyOf_0_2 hm (by decide) (show Int32.ofNat 400 = 400 by decide) ?_
  refine mv_icmp_neZ (tgt := 14) (a := n.toInt) (b := 400) d_Arrays_copyOf_0_3 (by decide) rfl (by decide) (fun hne => ?_) (fun heq => ?_)
  · refine mv_iload_n d_Arrays_copyOf_0_14 rfl rfl ?_
    refine mv_newa_int (N := n.toNatClampNeg) (kc' := 0) (ks' := 0) d_Arrays_copyOf_0_15 hn0 rfl (by omega) (Nat.le_refl _) (by omega) ?_
    refine mv_astore_n (lv' := [(2, .ref n0), (0, .ref a), (1, .int n)]) d_Arrays_copyOf_0_17 rfl (by decide) rfl ?_
    refine mv_aload_n d_Arrays_copyOf_0_18 rfl rfl ?_
    refine mv_iconst (v := 0) d_Arrays_copyOf_0_19 (by decide) ?_
    refine mv_aload_n d_Arrays_copyOf_0_20 rfl rfl ?_
    refine mv_iconst (v := 0) d_Arrays_copyOf_0_21 (by decide) ?_
    refine mv_aload_n d_Arrays_copyOf_0_22 rfl rfl ?_
    refine mv_alen (v := 400) d_Arrays_copyOf_0_23 ((mj_up_ne _ _ (Nat.ne_of_lt hax)).trans hm) (by decide) (show Int32.ofNat 400 = 400 by decide) ?_
    refine mv_iload_n d_Arrays_copyOf_0_24 rfl rfl ?_
    refine mv_mmin (v := n) d_Arrays_copyOf_0_25 (mj_in1 (List.mem_of_getElem? (i := 540) (by decide +kernel)) rfl) (Nat.le_of_ble_eq_true rfl) (if_pos (by rw [Int32.lt_iff_toInt_lt]; show n.toInt < 400; omega)) ?_
    refine mv_copyi (n0 := 400) (n1 := n.toNatClampNeg) d_Arrays_copyOf_0_28 (mj_in1 (List.mem_of_getElem? (i := 541) (by decide +kernel)) rfl) ((mj_up_ne _ _ (Nat.ne_of_lt hax)).trans hm) (mj_up_self _ _ _) hn0 (by omega) (Nat.le_refl _) (Nat.le_of_ble_eq_true rfl) ?_
    rw [mj_up_up]
    refine mv_aload_n d_Arrays_copyOf_0_31 rfl rfl ?_
    exact mv_aret (r := some n0) d_Arrays_copyOf_0_32 rfl (by first | exact Or.inl ⟨_, rfl⟩ | exact Or.inr ⟨_, rfl⟩) ⟨_, I0.row hF (by omega), _, rfl, if_pos rfl⟩
  · refine mv_aload_n d_Arrays_copyOf_0_6 rfl rfl ?_
    refine mv_cloneI (kc' := 0) (ks' := 0) d_Arrays_copyOf_0_7 (mj_in1 (List.mem_of_getElem? (i := 538) (by decide +kernel)) rfl) hm (by decide) (Nat.le_of_ble_eq_true rfl) (Nat.le_refl _) (by omega) ?_
    refine mv_castA d_Arrays_copyOf_0_10 (mj_in1 (List.mem_of_getElem? (i := 539) (by decide +kernel)) rfl) (mj_up_self _ _ _) ?_
    exact mv_aret (r := some n0) d_Arrays_copyOf_0_13 rfl (by first | exact Or.inl ⟨_, rfl⟩ | exact Or.inr ⟨_, rfl⟩) ⟨_, I0.row hF (by decide), _, rfl, if_pos rfl⟩
section TN
variable {g : mj_G} {l : Launch} {y : mj_Y} {d pc : Nat} {lv : List (Nat × Value)} {st : List Value} {M M0 : mj_M} {nx n0 kc ks x : Nat} {Q : Option Value → mj_M → Nat → Prop} {FT : Nat → List tm_F} {W : Nat → Bool} {T T0 : tm_H}
theorem tm_ne (I : tm_I FT W x T0 M0 n0 T M nx) {b : Nat} {t : tm_T} (h : T b = some t) : b ≠ nx := Nat.ne_of_lt (I.2.1 b t h).2
theorem tm_at.new {a : Nat} {c9 : mj_C} {b c k : Nat} {w : Value} (hb : b ≠ a) (h : tm_at M b c k w) : tm_at (mj_up M a c9) b c k w := by
  obtain ⟨fs, e1, e2⟩ := h
  exact ⟨fs, (mj_up_ne M _ hb).trans e1, e2⟩
/-- an object is made, under way -/
theorem tr_new {index c kc' ks' : Nat} {fs : List Value} (hF : tm_ok FT) (I : tm_I FT W x T0 M0 n0 T M nx) (hd : decode y.2.1 pc = .ok (.new index, 3)) (hf : mj_nw y.1.cls index c fs) (hkc : kc' + 1 ≤ kc) (hks : ks' + fs.length ≤ ks) (kk : ∀ (T1 : tm_H) (M1 : mj_M), tm_I FT W x T0 M0 n0 T1 M1 (nx + 1) → T1 nx = some (5, c, 0) → M1 nx = some (.inr (c, fs)) → n0 ≤ nx → (∀ b t, T b = some t → T1 b = some t) → (∀ b t, T b = some t → M1 b = M b) → mj_V g l y d (pc + 3) lv (.ref nx :: st) M1 (nx + 1) kc' ks' Q) : mj_V g l y d pc lv st M nx kc ks Q :=
  mv_new hd hf hkc hks (kk _ _ (I.raw hF c _) (if_pos rfl) (mj_up_self _ _ _) I.2.2.2.1 (fun b t h => (if_neg (tm_ne I h)).trans h) (fun b t h => mj_up_ne _ _ (tm_ne I h)))
theorem tr_newi {E N kc' ks' : Nat} {n : Int32} (hF : tm_ok FT) (I : tm_I FT W x T0 M0 n0 T M nx) (hE : E % 8 = 0) (hd : decode y.2.1 pc = .ok (.newarray .int, 2)) (hn : ¬ n < 0) (hN : n.toNatClampNeg = N) (hbt : N * 4 ≤ 536870912) (hkc : kc' + 1 ≤ kc) (hks : ks' + N ≤ ks) (kk : ∀ (T1 : tm_H) (M1 : mj_M), tm_I FT W x T0 M0 n0 T1 M1 (nx + 1) → T1 nx = some (1, E, N) → (∀ b t, T b = some t → T1 b = some t) → (∀ b t, T b = some t → M1 b = M b) → mj_V g l y d (pc + 2) lv (.ref nx :: st) M1 (nx + 1) kc' ks' Q) : mj_V g l y d pc lv (.int n :: st) M nx kc ks Q :=
  mv_newa_int hd hn hN hbt hkc hks (kk _ _ (I.arr hF (fun T1 => tm_c1 (by omega) (by rw [mj_up_self, hE]))) (if_pos rfl) (fun b t h => (if_neg (tm_ne I h)).trans h) (fun b t h => mj_up_ne _ _ (tm_ne I h)))
theorem tr_newz {E N kc' ks' : Nat} {n : Int32} (hF : tm_ok FT) (I : tm_I FT W x T0 M0 n0 T M nx) (hE : E % 8 = 2) (hd : decode y.2.1 pc = .ok (.newarray .boolean, 2)) (hn : ¬ n < 0) (hN : n.toNatClampNeg = N) (hbt : N * 1 ≤ 536870912) (hkc : kc' + 1 ≤ kc) (hks : ks' + N ≤ ks) (kk : ∀ (T1 : tm_H) (M1 : mj_M), tm_I FT W x T0 M0 n0 T1 M1 (nx + 1) → T1 nx = some (1, E, N) → (∀ b t, T b = some t → T1 b = some t) → (∀ b t, T b = some t → M1 b = M b) → mj_V g l y d (pc + 2) lv (.ref nx :: st) M1 (nx + 1) kc' ks' Q) : mj_V g l y d pc lv (.int n :: st) M nx kc ks Q :=
  mv_newa_bool hd hn hN hbt hkc hks (kk _ _ (I.arr hF (fun T1 => tm_c1 (by omega) (by rw [mj_up_self, hE]))) (if_pos rfl) (fun b t h => (if_neg (tm_ne I h)).trans h) (fun b t h => mj_up_ne _ _ (tm_ne I h)))
theorem tr_newb {E N kc' ks' : Nat} {n : Int32} (hF : tm_ok FT) (I : tm_I FT W x T0 M0 n0 T M nx) (hE : E % 8 = 3) (hd : decode y.2.1 pc = .ok (.newarray .byte, 2)) (hn : ¬ n < 0) (hN : n.toNatClampNeg = N) (hbt : N * 1 ≤ 536870912) (hkc : kc' + 1 ≤ kc) (hks : ks' + N ≤ ks) (kk : ∀ (T1 : tm_H) (M1 : mj_M), tm_I FT W x T0 M0 n0 T1 M1 (nx + 1) → T1 nx = some (1, E, N) → (∀ b t, T b = some t → T1 b = some t) → (∀ b t, T b = some t → M1 b = M b) → mj_V g l y d (pc + 2) lv (.ref nx :: st) M1 (nx + 1) kc' ks' Q) : mj_V g l y d pc lv (.int n :: st) M nx kc ks Q :=
  mv_newa_byte hd hn hN hbt hkc hks (kk _ _ (I.arr hF (fun T1 => tm_c1 (by omega) (by rw [mj_up_self, hE]))) (if_pos rfl) (fun b t h => (if_neg (tm_ne I h)).trans h) (fun b t h => mj_up_ne _ _ (tm_ne I h)))
theorem tr_cloneR {E index kc' ks' : Nat} (hF : tm_ok FT) (I : tm_I FT W x T0 M0 n0 T M nx) (hE : E % 8 = 0) (hd : decode y.2.1 pc = .ok (.invokevirtual index, 3)) (hw : Cond.methodLink y.1.cls index ⟨"[I", "clone", "()Ljava/lang/Object;"⟩ ∈ mj_T) (hcat : (st.map fun v => v.category).sum ≤ 8) (hkc : kc' + 1 ≤ kc) (hks : ks' + 6 ≤ ks) (kk : ∀ (T1 : tm_H) (M1 : mj_M), tm_I FT W x T0 M0 n0 T1 M1 (nx + 1) → T1 nx = some (1, E, 6) → (∀ b t, T b = some t → T1 b = some t) → (∀ b t, T b = some t → M1 b = M b) → mj_V g l y (d + 1) (pc + 3) lv (.ref nx :: st) M1 (nx + 1) kc' ks' Q) : mj_V g l y (d + 1) pc lv (.ref 1 :: st) M nx kc ks Q :=
  mv_cloneR hd hw hcat hkc hks (kk _ _ (I.arr hF (fun T1 => tm_c1 (by omega) (by rw [mj_up_self, hE]))) (if_pos rfl) (fun b t h => (if_neg (tm_ne I h)).trans h) (fun b t h => mj_up_ne _ _ (tm_ne I h)))
theorem tr_castA {index a E N : Nat} (I : tm_I FT W x T0 M0 n0 T M nx) (ta : T a = some (1, E, N)) (hE : E % 8 = 0) (hd : decode y.2.1 pc = .ok (.checkcast index, 3)) (hw : Cond.classLink y.1.cls index "[I" ∈ mj_T) (kk : mj_V g l y d (pc + 3) lv (.ref a :: st) M nx kc ks Q) : mj_V g l y d pc lv (.ref a :: st) M nx kc ks Q := by
  obtain ⟨f, hm⟩ := tm_arrI I ta (by omega)
  rw [hE] at hm
  exact mv_castA hd hw hm kk
/-- a field of an object under way is written; others' fields hold what they held -/
theorem tr_putX {index a c k : Nat} {fs fs' : List Value} {v : Value} {ty : FieldType} (hF : tm_ok FT) (I : tm_I FT W x T0 M0 n0 T M nx) (ta : T a = some (5, c, 0)) (hx : a = x ∨ n0 ≤ a) (hm : M a = some (.inr (c, fs))) (hd : decode y.2.1 pc = .ok (.putfield index, 3)) (hf : mj_fp y.1.cls index c k ty false) (hl : k < fs.length) (hn : narrow ty v = v) (hfit : fits ty v = true) (hs : fs.set k v = fs') (kk : ∀ M1, tm_I FT W x T0 M0 n0 T M1 nx → M1 a = some (.inr (c, fs')) → (∀ b, b ≠ a → M1 b = M b) → mj_V g l y d (pc + 3) lv st M1 nx kc ks Q) : mj_V g l y d pc lv (v :: .ref a :: st) M nx kc ks Q :=
  mv_put hd hf hm hl hn hfit hs (kk _ (I.putx hF _ ta hx) (mj_up_self _ _ _) (fun b hb => mj_up_ne _ _ hb))
theorem tr_putXF {index a c k : Nat} {fs fs' : List Value} {v : Value} {ty : FieldType} (hF : tm_ok FT) (I : tm_I FT W x T0 M0 n0 T M nx) (ta : T a = some (5, c, 0)) (hx : a = x ∨ n0 ≤ a) (hm : M a = some (.inr (c, fs))) (hd : decode y.2.1 pc = .ok (.putfield index, 3)) (hf : mj_fp y.1.cls index c k ty true) (hi : y.1.name = "<init>") (hl : k < fs.length) (hn : narrow ty v = v) (hfit : fits ty v = true) (hs : fs.set k v = fs') (kk : ∀ M1, tm_I FT W x T0 M0 n0 T M1 nx → M1 a = some (.inr (c, fs')) → (∀ b, b ≠ a → M1 b = M b) → mj_V g l y d (pc + 3) lv st M1 nx kc ks Q) : mj_V g l y d pc lv (v :: .ref a :: st) M nx kc ks Q :=
  mv_putF hd hf hi hm hl hn hfit hs (kk _ (I.putx hF _ ta hx) (mj_up_self _ _ _) (fun b hb => mj_up_ne _ _ hb))
/-- the cell of another object under way, behind a call -/
theorem tm_I.keepX (J : tm_I FT W x T0 M0 n0 T M nx) {b c : Nat} (tb : T0 b = some (5, c, 0)) (hb : b ≠ x) : M b = M0 b := J.2.2.2.2.2.2.1 b _ tb hb
theorem tm_fs_nil {T : tm_H} {a : Nat} : tm_fs T a [] [] := ⟨rfl, fun k f h => nomatch h⟩
theorem tm_fs_cons {T : tm_H} {a : Nat} {f : tm_F} {F : List tm_F} {v : Value} {vs : List Value} (hv : tm_v T a f v) (h : tm_fs T a F vs) : tm_fs T a (f :: F) (v :: vs) := by
  refine ⟨by rw [List.length_cons, List.length_cons, h.1], fun k f9 hk => ?_⟩
  cases k with
  | zero =>
    cases hk
    exact ⟨v, rfl, hv⟩
  | succ k => exact h.2 k f9 hk
/-- the object under way is done -/
theorem tm_I.sealO (hF : tm_ok FT) (I : tm_I FT W x T0 M0 n0 T M nx) {a c : Nat} {fs : List Value} (ta : T a = some (5, c, 0)) (h0 : n0 ≤ a) (hm : M a = some (.inr (c, fs))) (hfs : ∀ T1 : tm_H, (∀ b t, T b = some t → t.1 < 5 → T1 b = some t) → tm_fs T1 a (FT c) fs) : ∃ T1, tm_I FT W x T0 M0 n0 T1 M nx ∧ T1 a = some (0, c, 0) ∧ ∀ b t, T b = some t → b ≠ a → T1 b = some t :=
  ⟨_, I.seal (t := (0, c, 0)) hF ta h0 (fun T1 hT _ => ⟨fs, hm, hfs T1 hT⟩), if_pos rfl, fun _ _ h hb => (if_neg hb).trans h⟩
theorem tm_I.sealL (hF : tm_ok FT) (I : tm_I FT W x T0 M0 n0 T M nx) {a o c : Nat} (ta : T a = some (5, 0, 0)) (h0 : n0 ≤ a) (hm : M a = some (.inr (0, [.int 0, .ref 0, .int 0]))) : ∃ T1, tm_I FT W x T0 M0 n0 T1 M nx ∧ T1 a = some (3, c, o) ∧ ∀ b t, T b = some t → b ≠ a → T1 b = some t :=
  ⟨_, I.seal (t := (3, c, o)) hF ta h0 (fun T1 hT _ => ⟨0, 0, 0, 0, fun _ => none, hm, Int.le_refl _, (by rw [mz_0]; exact Int.natCast_nonneg _), (by rw [mz_0]; exact Int.natCast_nonneg _), Nat.zero_le _, Or.inl ⟨rfl, rfl⟩, fun j hj => absurd hj (by rw [mz_0]; exact Int.not_lt.mpr (Int.natCast_nonneg _))⟩), if_pos rfl, fun _ _ h hb => (if_neg hb).trans h⟩
end TN
