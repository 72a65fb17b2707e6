/-! what a list holds, kept; a list added to, the others as they were; a field put, the other cells as they were -/
def tm_ge (M : mj_M) (a i b : Nat) : Prop := ∃ (m n : Int32) (e N : Nat) (f : Nat → Option Nat), M a = some (mj_li m e n) ∧ M e = some (mj_ro N f) ∧ (i : Int) < n.toInt ∧ f i = some b
section TG
variable {g : mj_G} {l : Launch} {y : mj_Y} {d pc : Nat} {lv : List (Nat × Value)} {st : List Value} {nx kc ks : Nat} {Q : Option Value → mj_M → Nat → Prop} {FT : Nat → List tm_F} {W : Nat → Bool} {x n0 n : Nat} {T0 T : tm_H} {M0 M : mj_M}
theorem tm_ge.fn {a i b b1 : Nat} (h : tm_ge M a i b) (h1 : tm_ge M a i b1) : b = b1 := by
  obtain ⟨m, k, e, N, f, p1, p2, p3, p4⟩ := h
  obtain ⟨m1, k1, e1, N1, f1, q1, q2, q3, q4⟩ := h1
  cases p1.symm.trans q1
  cases p2.symm.trans q2
  exact Option.some.inj (p4.symm.trans q4)
theorem tm_ge.of {a c i b e N : Nat} {m k : Int32} {f : Nat → Option Nat} (h : tm_ls T M a c m k e N f) (hi : (i : Int) < k.toInt) (hb : f i = some b) : tm_ge M a i b := by
  obtain ⟨h1, h2, h3, h4, h5, h6, h7⟩ := h
  rcases h6 with ⟨-, h6⟩ | ⟨te, hE, -⟩
  · omega
  · exact ⟨m, k, e, N, f, h1, hE, hi, hb⟩
/-- what a list is known to hold, in its parts -/
theorem tm_ge.el {a c i b e N : Nat} {m k : Int32} {f : Nat → Option Nat} (h : tm_ls T M a c m k e N f) (h2 : tm_ge M a i b) : (i : Int) < k.toInt ∧ f i = some b ∧ T b = some (0, c, 0) := by
  obtain ⟨m1, k1, e1, N1, f1, q1, q2, q3, q4⟩ := h2
  obtain ⟨h1, h2, h3, h4, h5, h6, h7⟩ := h
  cases h1.symm.trans q1
  rcases h6 with ⟨-, h6⟩ | ⟨te, hE, -⟩
  · omega
  · cases hE.symm.trans q2
    obtain ⟨b1, e1, e2⟩ := h7 i q3
    cases e1.symm.trans q4
    exact ⟨q3, q4, e2⟩
theorem tm_ge.mono {M1 : mj_M} {a c o i b : Nat} (hW : tm_W FT T M) (ta : T a = some (3, c, o)) (hM : M1 a = M a) (hE : ∀ e, T e = some (4, a, c) → M1 e = M e) (h : tm_ge M a i b) : tm_ge M1 a i b := by
  obtain ⟨m, k, e, N, f, q⟩ := hW a _ ta
  obtain ⟨h1, h2, h3, h4, h5, h6, h7⟩ := q
  obtain ⟨m1, k1, e1, N1, f1, q1, q2, q3, q4⟩ := h
  cases h1.symm.trans q1
  rcases h6 with ⟨-, h6⟩ | ⟨te, -, -⟩
  · omega
  · exact ⟨m, k, e, N1, f1, hM.trans h1, (hE e te).trans q2, q3, q4⟩
theorem tm_I.keepG (hW0 : tm_W FT T0 M0) (J : tm_I FT W x T0 M0 n0 T M n) {a c o i b : Nat} (ta : T0 a = some (3, c, o)) (hW : W (5000 + c) = false) (h : tm_ge M0 a i b) : tm_ge M a i b :=
  h.mono hW0 ta (J.2.2.2.2.2.2.1 a _ ta hW) (fun e te => J.2.2.2.2.2.2.1 e _ te hW)
theorem tm_ge.put {M1 : mj_M} {p a c o i b k1 k2 k3 : Nat} (hW : tm_W FT T M) (ta : T a = some (3, c, o)) (tp : T p = some (k1, k2, k3)) (hk : k1 < 3) (hM : ∀ q, q ≠ p → M1 q = M q) (h : tm_ge M a i b) : tm_ge M1 a i b := by
  refine h.mono hW ta (hM a fun e => ?_) (fun e te => hM e fun h => ?_)
  · subst e
    cases ta.symm.trans tp
    omega
  · subst h
    cases te.symm.trans tp
    omega
theorem tr_putKM {index a c k : Nat} {f : tm_F} {v : Value} {ty : FieldType} (hF : tm_ok FT) (I : tm_I FT W x T0 M0 n0 T M nx) (ta : T a = some (0, c, 0)) (hk : (FT c)[k]? = some f) (hv : tm_v T a f v) (hW : W (100 * c + k) = true ∨ n0 ≤ a) (hd : decode y.2.1 pc = .ok (.putfield index, 3)) (hf : mj_fp y.1.cls index c k ty false) (hn : narrow ty v = v) (hfit : fits ty v = true) (kk : ∀ M1, tm_I FT W x T0 M0 n0 T M1 nx → tm_at M1 a c k v → (∀ (b c9 k9 : Nat) (w : Value), (c9 == c && k9 == k) = false → tm_at M b c9 k9 w → tm_at M1 b c9 k9 w) → (∀ b, b ≠ a → M1 b = M b) → mj_V g l y d (pc + 3) lv st M1 nx kc ks Q) : mj_V g l y d pc lv (v :: .ref a :: st) M nx kc ks Q := by
  obtain ⟨fs, hm, hfs⟩ := I.1 a _ ta
  have hlt : k < fs.length := by rw [hfs.1]; exact (List.getElem?_eq_some_iff.mp hk).1
  refine mv_put hd hf hm hlt hn hfit rfl (kk _ (I.put hF ta hm hfs hk hv hW) ⟨_, mj_up_self _ _ _, List.getElem?_set_self hlt⟩ (fun b c9 k9 w h9 h => ?_) (fun b hb => mj_up_ne _ _ hb))
  obtain ⟨fs9, e1, e2⟩ := h
  by_cases e : b = a
  · subst e
    cases hm.symm.trans e1
    refine ⟨_, mj_up_self _ _ _, ?_⟩
    rw [List.getElem?_set_ne (fun h => by subst h; simp at h9)]
    exact e2
  · exact ⟨fs9, (mj_up_ne M _ e).trans e1, e2⟩
theorem tm_addQK (hF : tm_ok FT) (I : tm_I FT W x T0 M0 n0 T0 M0 n0) {a b c o e N e1 N1 : Nat} {m m1 k : Int32} {f f1 : Nat → Option Nat} {M2 : mj_M} {n2 : Nat} (ta : T0 a = some (3, c, o)) (tb : T0 b = some (0, c, 0)) (hls : tm_ls T0 M0 a c m k e N f) (hk : k.toInt < (tm_mx c : Int)) (hW : W (5000 + c) = true) (he : (e1 = e ∧ T0 e = some (4, a, c) ∧ n2 = n0) ∨ (e1 = n0 ∧ n2 = n0 + 1)) (hL : M2 a = some (mj_li m1 e1 (k + 1))) (hE : M2 e1 = some (mj_ro N1 f1)) (hN : k.toInt < (N1 : Int)) (hN1 : N1 ≤ 2 * tm_mx c + 10) (hmx : tm_mx c ≤ 72) (hold : ∀ j : Nat, (j : Int) < k.toInt → f1 j = f j) (hnew : f1 k.toNatClampNeg = some b) (hM : ∀ q, q ≠ a → q ≠ e1 → M2 q = M0 q) : ∃ T2, tm_I FT W x T0 M0 n0 T2 M2 n2 ∧ tm_at M2 a 0 2 (.int (k + 1)) ∧ (∀ q c1 o1, q ≠ a → T0 q = some (3, c1, o1) → M2 q = M0 q) ∧ (∀ i b1, tm_ge M0 a i b1 → tm_ge M2 a i b1) ∧ tm_ge M2 a k.toNatClampNeg b := by
  have hls9 := hls
  obtain ⟨h1, h2, h3, h4, h5, h6, h7⟩ := hls9
  obtain ⟨T2, I2, hl2⟩ := tm_addQ hF I ta tb hls hk hW he hL hE hN hN1 hmx hold hnew hM
  have hkn := mz_nat9 h2
  have hk1 : (k + 1).toInt = k.toInt + 1 := by
    have h := Int32.toInt_add k 1
    rw [show (1 : Int32).toInt = 1 from rfl] at h
    rw [h]
    exact fb_bmod32 (by omega) (by omega)
  refine ⟨T2, I2, hl2, fun q c1 o1 hq tq => hM q hq fun h => ?_, fun i b1 hg => ?_, ⟨m1, k + 1, e1, N1, f1, hL, hE, by omega, hnew⟩⟩
  · subst h
    rcases he with ⟨rfl, te, -⟩ | ⟨rfl, -⟩
    · rw [te] at tq
      cases tq
    · exact absurd (I.2.1 _ _ tq).2 (Nat.lt_irrefl _)
  · obtain ⟨p1, p2, p3⟩ := hg.el hls
    exact ⟨m1, k + 1, e1, N1, f1, hL, hE, by omega, (hold i p1).trans p2⟩
end TG
set_option maxHeartbeats 1000000 in
theorem tc_AL_addK {g : mj_G} {l : Launch} {d n0 x a b c o : Nat} {T0 : tm_H} {M0 : mj_M} {FT : Nat → List tm_F} {W : Nat → Bool} {n : Int32} {C : String} {T9 : u_T} {N9 : Nat} (hF : tm_ok FT) (ta : T0 a = some (3, c, o)) (tb : T0 b = some (0, c, 0)) (hlen : tm_at M0 a 0 2 (.int n)) (hn : n.toInt < (tm_mx c : Int)) (hW : W (5000 + c) = true) (hc : kcl[c]? = some (C, T9, N9)) (hca : Cond.castable C "java/lang/Object" ∈ mj_T) (hc0 : c ≠ 0) (hmx : tm_mx c ≤ 72) (I0 : tm_I FT W x T0 M0 n0 T0 M0 n0) : mj_Met g l kY_ArrayList_add_0 (d + 6) [.ref a, .ref b] M0 n0 1 (2 * tm_mx c + 10) (tm_Q FT W x T0 M0 n0 (fun r _ M => r = some (.int 1) ∧ tm_at M a 0 2 (.int (n + 1)) ∧ (∀ q c1 o1, q ≠ a → T0 q = some (3, c1, o1) → M q = M0 q) ∧ (∀ i b1, tm_ge M0 a i b1 → tm_ge M a i b1) ∧ tm_ge M a n.toNatClampNeg b)) := by
  obtain ⟨m, e, N, f, hls⟩ := tm_lsn I0 ta hlen
  have hls0 := hls
  obtain ⟨h1, h2, h3, h4, h5, h6, h7⟩ := hls
  obtain ⟨vs, hb, -⟩ := I0.1 b _ tb
  have hax := (I0.2.1 a _ ta).2
  have hbx := (I0.2.1 b _ tb).2
  have hba : b ≠ a := fun h => by subst h; rw [ta] at tb; cases tb
  have hnn := mz_nat9 h2
  refine mj_enter (by decide) (Nat.le_of_ble_eq_true rfl) ?_
  refine mv_aload_n d_ArrayList_add_0_0 rfl rfl ?_
  refine mv_dup d_ArrayList_add_0_1 rfl ?_
  refine mv_get d_ArrayList_add_0_2 f_ArrayList_63_0 h1 rfl ?_
  refine mv_iconst (v := 1) d_ArrayList_add_0_5 (by decide) ?_
  refine mv_iadd d_ArrayList_add_0_6 ?_
  refine mv_put (fs' := [.int (m + 1), .ref e, .int n]) d_ArrayList_add_0_7 p_ArrayList_63_0 h1 (Nat.le_of_ble_eq_true rfl) rfl rfl rfl ?_
  refine mv_aload_n d_ArrayList_add_0_10 rfl rfl ?_
  refine mv_aload_n d_ArrayList_add_0_11 rfl rfl ?_
  refine mv_aload_n d_ArrayList_add_0_12 rfl rfl ?_
  refine mv_get d_ArrayList_add_0_13 f_ArrayList_9_0 (mj_up_self _ _ _) rfl ?_
  refine mv_aload_n d_ArrayList_add_0_16 rfl rfl ?_
  refine mv_get d_ArrayList_add_0_17 f_ArrayList_48_0 (mj_up_self _ _ _) rfl ?_
  rcases h6 with ⟨rfl, rfl⟩ | ⟨te, hE, hN1⟩
  · have hz : n = 0 := Int32.toInt_inj.mp (by rw [mz_0]; omega)
    subst hz
    refine mv_callV_n (kc' := 0) (ks' := 0) [.ref b, .ref 0, .int 0] [.int 0, .ref 0, .ref b, .ref a] d_ArrayList_add_0_20 lV_ArrayList_131 (mj_up_self _ _ _) rfl (tc_AL_a3z (d := d + 2) (mj_up_self _ _ _) hax hbx hc hca ((mj_up_ne _ _ hba).trans hb) hc0) rfl (Nat.le_of_ble_eq_true rfl) (Nat.le_refl _) (by omega) rfl ?_
    refine mv_iconst (v := 1) d_ArrayList_add_0_23 (by decide) ?_
    obtain ⟨T2, I2, hl2⟩ := tm_addQK hF I0 (e1 := n0) (N1 := 10) (f1 := va_up (fun _ => none) 0 (some b)) (n2 := n0 + 1) ta tb hls0 hn hW (Or.inr ⟨rfl, rfl⟩) (mj_up_self _ _ _) ((mj_up_ne _ _ (Ne.symm (Nat.ne_of_lt hax))).trans (mj_up_self _ _ _)) (by decide) (by omega) hmx (fun j hj => absurd hj (by rw [mz_0]; omega)) rfl (fun q h8 h9 => (mj_up_ne _ _ h8).trans ((mj_up_ne _ _ h9).trans ((mj_up_ne _ _ h8).trans ((mj_up_ne _ _ h9).trans (mj_up_ne _ _ h8)))))
    exact mv_iret d_ArrayList_add_0_24 rfl (by decide) ⟨T2, I2, rfl, hl2⟩
  · have hex := (I0.2.1 e _ te).2
    have hea : e ≠ a := fun h => by subst h; rw [ta] at te; cases te
    by_cases hfull : n.toInt = (N : Int)
    · have hz : n = nI N := Int32.toInt_inj.mp (by rw [nI_toInt (by omega)]; exact hfull)
      subst hz
      have hN : N < 81 := by omega
      obtain ⟨g1, g2, g3, g4⟩ := mj_gl_ok N hN hN1
      have hcN := mz_clampI hfull
      refine mv_callV_n (kc' := 0) (ks' := 0) [.ref b, .ref e, .int (nI N)] [.int (nI N), .ref e, .ref b, .ref a] d_ArrayList_add_0_20 lV_ArrayList_131 (mj_up_self _ _ _) rfl (tc_AL_a3g (d := d) (mj_up_self _ _ _) ((mj_up_ne _ _ hea).trans hE) hex hax hbx hN hN1 hc hca ((mj_up_ne _ _ hba).trans hb) hc0 (fun i hi b1 hb1 => ?_)) rfl (Nat.le_of_ble_eq_true rfl) (Nat.le_refl _) (by omega) rfl ?_
      · obtain ⟨b2, e9, e10⟩ := h7 i (by omega)
        cases hb1.symm.trans e9
        obtain ⟨fs2, hb2, -⟩ := I0.1 _ _ e10
        exact ⟨(I0.2.1 _ _ e10).2, fs2, (mj_up_ne _ _ (fun h => by subst h; rw [ta] at e10; cases e10)).trans hb2⟩
      refine mv_iconst (v := 1) d_ArrayList_add_0_23 (by decide) ?_
      obtain ⟨T2, I2, hl2⟩ := tm_addQK hF I0 (e1 := n0) (N1 := (mj_gl N).toNatClampNeg) (f1 := va_up (va_cpy f (fun _ => none) 0 0 N) N (some b)) (n2 := n0 + 1) ta tb hls0 hn hW (Or.inr ⟨rfl, rfl⟩) (mj_up_self _ _ _) ((mj_up_ne _ _ (Ne.symm (Nat.ne_of_lt hax))).trans (mj_up_self _ _ _)) (by omega) (by omega) hmx (fun j hj => by unfold va_up va_cpy; rw [if_neg (by omega), if_pos ⟨Nat.zero_le _, by omega⟩, Nat.zero_add, Nat.sub_zero]) (by rw [hcN]; unfold va_up; rw [if_pos rfl]) (fun q h8 h9 => (mj_up_ne _ _ h8).trans ((mj_up_ne _ _ h9).trans ((mj_up_ne _ _ h8).trans ((mj_up_ne _ _ h9).trans (mj_up_ne _ _ h8)))))
      exact mv_iret d_ArrayList_add_0_24 rfl (by decide) ⟨T2, I2, rfl, hl2⟩
    · refine mv_callV_n (kc' := 1) (ks' := 2 * tm_mx c + 10) [.ref b, .ref e, .int n] [.int n, .ref e, .ref b, .ref a] d_ArrayList_add_0_20 lV_ArrayList_131 (mj_up_self _ _ _) rfl (tc_AL_a3r (d := d + 5) (mj_up_self _ _ _) ((mj_up_ne _ _ hea).trans hE) h2 (by omega) (by omega) hc hca ((mj_up_ne _ _ hba).trans hb)) rfl (Nat.le_of_ble_eq_true rfl) (Nat.le_refl _) (Nat.le_refl _) rfl ?_
      refine mv_iconst (v := 1) d_ArrayList_add_0_23 (by decide) ?_
      obtain ⟨T2, I2, hl2⟩ := tm_addQK hF I0 (e1 := e) (N1 := N) (f1 := va_up f n.toNatClampNeg (some b)) (n2 := n0) ta tb hls0 hn hW (Or.inl ⟨rfl, te, rfl⟩) (mj_up_self _ _ _) ((mj_up_ne _ _ hea).trans (mj_up_self _ _ _)) (by omega) (by omega) hmx (fun j hj => by unfold va_up; rw [if_neg (by omega)]) (by unfold va_up; rw [if_pos rfl]) (fun q h8 h9 => (mj_up_ne _ _ h8).trans ((mj_up_ne _ _ h9).trans (mj_up_ne _ _ h8)))
      exact mv_iret d_ArrayList_add_0_24 rfl (by decide) ⟨T2, I2, rfl, hl2⟩
