def w_Scheme_init_h : List Nat := []
theorem tc_Scheme_init_h {g : mj_G} {l : Launch} {d : Nat} {T0 : tm_H} {M0 : mj_M} {n0 : Nat} {o0 : Nat} {x1 : Int32} {x2 : Int32} {x3 : Int32} {x4 : Int32} {x5 : Int32} (h_o0 : T0 o0 = some (5, 11, 0)) (m_o0 : M0 o0 = some (.inr (11, [.int 0, .int 0, .int 0, .int 0, .int 0, .int 0, .int 0, .int 0, .int 0, .int 0, .null, .null])))  (I0 : tm_I tm_FT (tm_in w_Scheme_init_h) o0 T0 M0 n0 T0 M0 n0) : mj_Met g l kY_Scheme_init (d + 1) [.ref o0, .int x1, .int x2, .int x3, .int x4, .int x5] M0 n0 2 200 (tm_Q tm_FT (tm_in w_Scheme_init_h) o0 T0 M0 n0 (fun r T M => r = none ∧ ∃ c0 c1 : Nat, M o0 = some (.inr (11, [.int x1, .int x2, .int x3, .int x4, .int x5, .int 0, .int 0, .int 0, .int 0, .int 0, .ref c0, .ref c1])) ∧ T c0 = some (1, 9282, 100) ∧ T c1 = some (1, 9291, 100) ∧ n0 ≤ c0 ∧ M c0 = some (.inl (2, 100, .inl (fun _ => 0))))) := by
  refine mj_enter (by decide) (Nat.le_of_ble_eq_true rfl) ?_
  refine mv_aload_n d_Scheme_init_0 rfl rfl ?_
  refine mv_oinit d_Scheme_init_1 (mj_in1 (List.mem_of_getElem? (i := 966) (by decide +kernel)) rfl) (Nat.le_of_ble_eq_true rfl) ?_
  refine mv_aload_n d_Scheme_init_4 rfl rfl ?_
  refine mv_iconst (v := 0) d_Scheme_init_5 (by decide) ?_
  refine tr_putX (k := 5) (fs' := [.int 0, .int 0, .int 0, .int 0, .int 0, .int 0, .int 0, .int 0, .int 0, .int 0, .null, .null]) tm_okF I0 h_o0 (Or.inl rfl) m_o0 d_Scheme_init_6 p_Scheme_9_11 (Nat.le_of_ble_eq_true rfl) rfl rfl rfl (fun M1 I2 m3 K4 => ?_)
  refine mv_aload_n d_Scheme_init_9 rfl rfl ?_
  refine mv_bipush (v := 100) d_Scheme_init_10 (by decide) ?_
  refine tr_newzV (E := 9282) (N := 100) (kc' := 1) (ks' := 100) tm_okF I2 (by decide) d_Scheme_init_12 (by decide) (by decide) (by decide) (Nat.le_of_ble_eq_true rfl) (Nat.le_of_ble_eq_true rfl) (fun T5 M6 I7 t_x11 u8 K9 h10 => ?_)
  have m12 := (K9 _ _ h_o0).trans m3
  have t13 := u8 _ _ h_o0
  refine tr_putXF (k := 10) (fs' := [.int 0, .int 0, .int 0, .int 0, .int 0, .int 0, .int 0, .int 0, .int 0, .int 0, .ref n0, .null]) tm_okF I7 t13 (Or.inl rfl) m12 d_Scheme_init_14 p_Scheme_15_11 rfl (Nat.le_of_ble_eq_true rfl) rfl rfl rfl (fun M14 I15 m16 K17 => ?_)
  have h18 := (K17 _ (tm_dif t_x11 t13 rfl)).trans h10
  refine mv_aload_n d_Scheme_init_17 rfl rfl ?_
  refine mv_bipush (v := 100) d_Scheme_init_18 (by decide) ?_
  refine tr_newb (E := 9291) (N := 100) (kc' := 0) (ks' := 0) tm_okF I15 (by decide) d_Scheme_init_20 (by decide) (by decide) (by decide) (Nat.le_of_ble_eq_true rfl) (Nat.le_of_ble_eq_true rfl) (fun T19 M20 I21 t_x22 u23 K24 => ?_)
  have h25 := (K24 _ _ t_x11).trans h18
  have m26 := (K24 _ _ t13).trans m16
  have t27 := u23 _ _ t13
  have t28 := u23 _ _ t_x11
  refine tr_putXF (k := 11) (fs' := [.int 0, .int 0, .int 0, .int 0, .int 0, .int 0, .int 0, .int 0, .int 0, .int 0, .ref n0, .ref (n0 + 1)]) tm_okF I21 t27 (Or.inl rfl) m26 d_Scheme_init_22 p_Scheme_19_11 rfl (Nat.le_of_ble_eq_true rfl) rfl rfl rfl (fun M29 I30 m31 K32 => ?_)
  have h33 := (K32 _ (tm_dif t28 t27 rfl)).trans h25
  refine mv_aload_n d_Scheme_init_25 rfl rfl ?_
  refine mv_iload_n d_Scheme_init_26 rfl rfl ?_
  refine tr_putXF (k := 0) (fs' := [.int x1, .int 0, .int 0, .int 0, .int 0, .int 0, .int 0, .int 0, .int 0, .int 0, .ref n0, .ref (n0 + 1)]) tm_okF I30 t27 (Or.inl rfl) m31 d_Scheme_init_27 p_Scheme_23_11 rfl (Nat.le_of_ble_eq_true rfl) rfl rfl rfl (fun M34 I35 m36 K37 => ?_)
  have h38 := (K37 _ (tm_dif t28 t27 rfl)).trans h33
  refine mv_aload_n d_Scheme_init_30 rfl rfl ?_
  refine mv_iload_n d_Scheme_init_31 rfl rfl ?_
  refine tr_putXF (k := 1) (fs' := [.int x1, .int x2, .int 0, .int 0, .int 0, .int 0, .int 0, .int 0, .int 0, .int 0, .ref n0, .ref (n0 + 1)]) tm_okF I35 t27 (Or.inl rfl) m36 d_Scheme_init_32 p_Scheme_26_11 rfl (Nat.le_of_ble_eq_true rfl) rfl rfl rfl (fun M39 I40 m41 K42 => ?_)
  have h43 := (K42 _ (tm_dif t28 t27 rfl)).trans h38
  refine mv_aload_n d_Scheme_init_35 rfl rfl ?_
  refine mv_iload_n d_Scheme_init_36 rfl rfl ?_
  refine tr_putXF (k := 2) (fs' := [.int x1, .int x2, .int x3, .int 0, .int 0, .int 0, .int 0, .int 0, .int 0, .int 0, .ref n0, .ref (n0 + 1)]) tm_okF I40 t27 (Or.inl rfl) m41 d_Scheme_init_37 p_Scheme_29_11 rfl (Nat.le_of_ble_eq_true rfl) rfl rfl rfl (fun M44 I45 m46 K47 => ?_)
  have h48 := (K47 _ (tm_dif t28 t27 rfl)).trans h43
  refine mv_aload_n d_Scheme_init_40 rfl rfl ?_
  refine mv_iload d_Scheme_init_41 rfl ?_
  refine tr_putXF (k := 3) (fs' := [.int x1, .int x2, .int x3, .int x4, .int 0, .int 0, .int 0, .int 0, .int 0, .int 0, .ref n0, .ref (n0 + 1)]) tm_okF I45 t27 (Or.inl rfl) m46 d_Scheme_init_43 p_Scheme_32_11 rfl (Nat.le_of_ble_eq_true rfl) rfl rfl rfl (fun M49 I50 m51 K52 => ?_)
  have h53 := (K52 _ (tm_dif t28 t27 rfl)).trans h48
  refine mv_aload_n d_Scheme_init_46 rfl rfl ?_
  refine mv_iload d_Scheme_init_47 rfl ?_
  refine tr_putXF (k := 4) (fs' := [.int x1, .int x2, .int x3, .int x4, .int x5, .int 0, .int 0, .int 0, .int 0, .int 0, .ref n0, .ref (n0 + 1)]) tm_okF I50 t27 (Or.inl rfl) m51 d_Scheme_init_49 p_Scheme_35_11 rfl (Nat.le_of_ble_eq_true rfl) rfl rfl rfl (fun M54 I55 m56 K57 => ?_)
  have h58 := (K57 _ (tm_dif t28 t27 rfl)).trans h53
  exact mv_vret d_Scheme_init_52 rfl ⟨_, I55, rfl, _, _, m56, t28, t_x22, I2.2.2.2.1, h58⟩
def w_TrustDesk_propose_h : List Nat := [5011]
set_option maxHeartbeats 100000000 in theorem tc_TrustDesk_propose_h {g : mj_G} {l : Launch} {d : Nat} {T0 : tm_H} {M0 : mj_M} {n0 x9 : Nat} {o0 : Nat} {x1 : Int32} {x2 : Int32} {x3 : Int32} (h_o0 : T0 o0 = some (0, 12, 0))  {Lg : Nat} {kf : Int32} (h_Lg : T0 Lg = some (3, 6, o0)) (q_Lg : tm_at M0 o0 12 6 (.ref Lg)) (ykf : tm_at M0 Lg 0 2 (.int kf)) {Ln : Nat} {kn : Int32} (h_Ln : T0 Ln = some (3, 8, o0)) (q_Ln : tm_at M0 o0 12 7 (.ref Ln)) (ykn : tm_at M0 Ln 0 2 (.int kn)) {Ls : Nat} {ks : Int32} (h_Ls : T0 Ls = some (3, 11, o0)) (q_Ls : tm_at M0 o0 12 8 (.ref Ls)) (yks : tm_at M0 Ls 0 2 (.int ks)) {La NR : Nat} {k : Int32} {A : Nat} {fr : Nat → Int} {va : Nat → Nat → Int} (h_La : T0 La = some (3, 1, o0)) (q_La : tm_at M0 o0 12 5 (.ref La)) (yk : tm_at M0 La 0 2 (.int k)) (yA : k.toInt = (A : Int)) (h_NR : T0 NR = some (0, 1, 0)) (q_NR : tm_at M0 o0 12 4 (.ref NR)) (yT : qT M0 La NR A fr va) (yf : ∀ i : Nat, i < A → 0 ≤ fr i) {t : Int32} (yt : tm_at M0 o0 12 12 (.int t)) (yt9 : 0 ≤ t.toInt ∧ t.toInt ≤ 36000) (yv : ∀ day : Int, 0 ≤ p_told fr va day A 2 ∧ p_told fr va day A 2 ≤ 720) (I0 : tm_I tm_FT (tm_in w_TrustDesk_propose_h) x9 T0 M0 n0 T0 M0 n0) : mj_Met g l kY_TrustDesk_propose (d + 7) [.ref o0, .int x1, .int x2, .int x3] M0 n0 4 302 (tm_Q tm_FT (tm_in w_TrustDesk_propose_h) x9 T0 M0 n0 (fun r _ M => ∃ v : Int32, r = some (.int v) ∧ ((v.toInt = -1 ∧ ¬ (0 ≤ x2.toInt ∧ x2.toInt < kf.toInt ∧ ((x1.toInt = 0 ∧ 0 ≤ x3.toInt ∧ x3.toInt < kn.toInt) ∨ (x1.toInt = 1 ∧ 0 ≤ x3.toInt ∧ x3.toInt < kf.toInt) ∨ (x1.toInt = 2 ∧ 1 ≤ x3.toInt ∧ x3.toInt ≤ 999) ∨ (x1.toInt = 3 ∧ 0 ≤ x3.toInt)) ∧ ks.toInt < 40) ∧ tm_at M Ls 0 2 (.int ks)) ∨ ((0 ≤ x2.toInt ∧ x2.toInt < kf.toInt ∧ ((x1.toInt = 0 ∧ 0 ≤ x3.toInt ∧ x3.toInt < kn.toInt) ∨ (x1.toInt = 1 ∧ 0 ≤ x3.toInt ∧ x3.toInt < kf.toInt) ∨ (x1.toInt = 2 ∧ 1 ≤ x3.toInt ∧ x3.toInt ≤ 999) ∨ (x1.toInt = 3 ∧ 0 ≤ x3.toInt)) ∧ ks.toInt < 40) ∧ v.toInt = ks.toInt ∧ ∃ k1 : Int32, tm_at M Ls 0 2 (.int k1) ∧ k1.toInt = ks.toInt + 1)) ∧ (∀ i b : Nat, tm_ge M0 Ls i b → tm_ge M Ls i b) ∧ ((0 ≤ x2.toInt ∧ x2.toInt < kf.toInt ∧ ((x1.toInt = 0 ∧ 0 ≤ x3.toInt ∧ x3.toInt < kn.toInt) ∨ (x1.toInt = 1 ∧ 0 ≤ x3.toInt ∧ x3.toInt < kf.toInt) ∨ (x1.toInt = 2 ∧ 1 ≤ x3.toInt ∧ x3.toInt ≤ 999) ∨ (x1.toInt = 3 ∧ 0 ≤ x3.toInt)) ∧ ks.toInt < 40) → ∃ (s R1 : Nat) (e : Int32), tm_ge M Ls ks.toNatClampNeg s ∧ tm_at M s 11 4 (.int e) ∧ e.toInt = t.toInt + p_told fr va t.toInt A 2 ∧ tm_at M s 11 5 (.int 0) ∧ tm_at M s 11 7 (.int 0) ∧ tm_at M s 11 10 (.ref R1) ∧ n0 ≤ R1 ∧ M R1 = some (.inl (2, 100, .inl (fun _ => 0)))))) := by
  refine mj_enter (by decide) (Nat.le_of_ble_eq_true rfl) ?_
  have hT : ∀ {T : tm_H} {M : mj_M} {n : Nat}, tm_I tm_FT (tm_in w_TrustDesk_propose_h) x9 T0 M0 n0 T M n → qT M La NR A fr va := fun I => yT.keep I0.1 I h_NR h_La (by decide +kernel) (by decide +kernel) (by decide +kernel) (by decide +kernel)
  have G0 : ∀ i b : Nat, tm_ge M0 Ls i b → tm_ge M0 Ls i b := fun _ _ h => h
  refine mv_aload_n d_TrustDesk_propose_0 rfl rfl ?_
  refine mv_iload_n d_TrustDesk_propose_1 rfl rfl ?_
  obtain ⟨_, b1, -⟩ := I0.1 _ _ h_o0
  refine mv_callV (kc1 := 0) (ks1 := 0) (kc' := 4) (ks' := 302) (As := [.int x2]) (st9 := [.int x2, .ref o0]) d_TrustDesk_propose_2 lV_TrustDesk_257 b1 rfl (mj_enter (by decide) (Nat.le_of_ble_eq_true rfl) ?_) rfl (Nat.le_of_ble_eq_true rfl) (Nat.le_of_ble_eq_true rfl) (Nat.le_of_ble_eq_true rfl) (hst := rfl) (fun _ _ _ h => h)
  refine mv_iload_n d_TrustDesk_fundAt_0 rfl rfl ?_
  have := mz_hi x2
  refine mv_if_ltZ (tgt := 29) (a := x2.toInt) d_TrustDesk_fundAt_1 (by decide) rfl (fun b2 => ?_) (fun b2 => ?_)
  · refine mv_null d_TrustDesk_fundAt_29 ?_
    refine mv_aret (r := none) d_TrustDesk_fundAt_30 rfl (by first | exact Or.inl ⟨_, rfl⟩ | exact Or.inr ⟨_, rfl⟩) ?_
    refine mv_ifnullN (tgt := 29) d_TrustDesk_propose_5 (by decide) ?_
    refine mv_iconst (v := (-1)) d_TrustDesk_propose_29 (by decide) ?_
    exact mv_iret d_TrustDesk_propose_30 rfl (by first | rfl | decide) ⟨_, I0, _, rfl, (Or.inl ⟨by decide, by omega, yks⟩), G0, (fun h9 => absurd h9 (by omega))⟩
  · refine mv_iload_n d_TrustDesk_fundAt_4 rfl rfl ?_
    refine mv_aload_n d_TrustDesk_fundAt_5 rfl rfl ?_
    refine tr_getK (k := 6) q_Lg d_TrustDesk_fundAt_6 f_TrustDesk_53_12 ?_
    obtain ⟨m4, e5, N6, f7, h3⟩ := tm_lsn I0 h_Lg ykf
    refine mv_callV_s (kc' := 0) (ks' := 0) [] [.ref Lg, .int x2] d_TrustDesk_fundAt_9 lV_TrustDesk_97 h3.1 rfl (tc_L_size (d := (d + 5)) h3.1) rfl (Nat.le_of_ble_eq_true rfl) (Nat.le_of_ble_eq_true rfl) (Nat.le_of_ble_eq_true rfl) rfl ?_
    have := mz_hi x2
    have := mz_hi kf
    refine mv_icmp_geZ (tgt := 29) (a := x2.toInt) (b := kf.toInt) d_TrustDesk_fundAt_12 (by decide) rfl rfl (fun b8 => ?_) (fun b8 => ?_)
    · refine mv_null d_TrustDesk_fundAt_29 ?_
      refine mv_aret (r := none) d_TrustDesk_fundAt_30 rfl (by first | exact Or.inl ⟨_, rfl⟩ | exact Or.inr ⟨_, rfl⟩) ?_
      refine mv_ifnullN (tgt := 29) d_TrustDesk_propose_5 (by decide) ?_
      refine mv_iconst (v := (-1)) d_TrustDesk_propose_29 (by decide) ?_
      exact mv_iret d_TrustDesk_propose_30 rfl (by first | rfl | decide) ⟨_, I0, _, rfl, (Or.inl ⟨by decide, by omega, yks⟩), G0, (fun h9 => absurd h9 (by omega))⟩
    · refine mv_aload_n d_TrustDesk_fundAt_15 rfl rfl ?_
      refine tr_getK (k := 6) q_Lg d_TrustDesk_fundAt_16 f_TrustDesk_53_12 ?_
      refine mv_iload_n d_TrustDesk_fundAt_19 rfl rfl ?_
      obtain ⟨m10, e11, N12, f13, h9⟩ := tm_lsn I0 h_Lg ykf
      obtain ⟨u14e, u14i, a15, u14f, u14t⟩ := tm_el (i := x2) h9 (by omega) (by omega)
      have t_a15 : T0 a15 = some (0, 6, 0) := u14t
      refine mv_callV_s (kc' := 0) (ks' := 0) [.int x2] [.int x2, .ref Lg] d_TrustDesk_fundAt_20 lV_TrustDesk_158 h9.1 rfl (tc_L_get (d := (d + 3)) h9.1 u14e (by omega) (by omega) u14i u14f) rfl (Nat.le_of_ble_eq_true rfl) (Nat.le_of_ble_eq_true rfl) (Nat.le_of_ble_eq_true rfl) rfl ?_
      obtain ⟨_, b16, -⟩ := I0.1 _ _ t_a15
      refine mv_castS (T9 := kF_Fund) (N := 15) d_TrustDesk_fundAt_23 (mj_in1 (List.mem_of_getElem? (i := 655) (by decide +kernel)) rfl) b16 rfl ?_
      refine mv_goto (tgt := 30) d_TrustDesk_fundAt_26 (by decide) ?_
      refine mv_aret (r := (some a15)) d_TrustDesk_fundAt_30 rfl (by first | exact Or.inl ⟨_, rfl⟩ | exact Or.inr ⟨_, rfl⟩) ?_
      refine mv_ifnull d_TrustDesk_propose_5 ?_
      refine mv_aload_n d_TrustDesk_propose_8 rfl rfl ?_
      refine mv_iload_n d_TrustDesk_propose_9 rfl rfl ?_
      refine mv_iload_n d_TrustDesk_propose_10 rfl rfl ?_
      obtain ⟨_, b17, -⟩ := I0.1 _ _ h_o0
      refine mv_callV (kc1 := 0) (ks1 := 0) (kc' := 4) (ks' := 302) (As := [.int x1, .int x3]) (st9 := [.int x3, .int x1, .ref o0]) d_TrustDesk_propose_11 lV_TrustDesk_267 b17 rfl (mj_enter (by decide) (Nat.le_of_ble_eq_true rfl) ?_) rfl (Nat.le_of_ble_eq_true rfl) (Nat.le_of_ble_eq_true rfl) (Nat.le_of_ble_eq_true rfl) (hst := rfl) (fun _ _ _ h => h)
      refine mv_iload_n d_TrustDesk_isSubject_0 rfl rfl ?_
      rcases (show (x1.toInt < 0 ∨ 3 < x1.toInt) ∨ x1.toInt = 0 ∨ x1.toInt = 1 ∨ x1.toInt = 2 ∨ x1.toInt = 3 by omega) with b18 | b18 | b18 | b18 | b18
      · refine mv_tableOut (tgt := 88) d_TrustDesk_isSubject_1 b18 (by decide) ?_
        refine mv_iconst (v := 0) d_TrustDesk_isSubject_88 (by decide) ?_
        refine mv_iret d_TrustDesk_isSubject_89 rfl (by decide) ?_
        refine mv_if_eq_t (tgt := 29) d_TrustDesk_propose_14 (by decide) (by decide) ?_
        refine mv_iconst (v := (-1)) d_TrustDesk_propose_29 (by decide) ?_
        exact mv_iret d_TrustDesk_propose_30 rfl (by first | rfl | decide) ⟨_, I0, _, rfl, (Or.inl ⟨by decide, by omega, yks⟩), G0, (fun h9 => absurd h9 (by omega))⟩
      · refine mv_tableIn (tgt := 32) (off := 31) d_TrustDesk_isSubject_1 (by omega) (by omega) (by rw [b18]; rfl) (by decide) ?_
        refine mv_aload_n d_TrustDesk_isSubject_32 rfl rfl ?_
        refine mv_iload_n d_TrustDesk_isSubject_33 rfl rfl ?_
        obtain ⟨_, b19, -⟩ := I0.1 _ _ h_o0
        refine mv_callV (kc1 := 0) (ks1 := 0) (kc' := 0) (ks' := 0) (As := [.int x3]) (st9 := [.int x3, .ref o0]) d_TrustDesk_isSubject_34 lV_TrustDesk_276 b19 rfl (mj_enter (by decide) (Nat.le_of_ble_eq_true rfl) ?_) rfl (Nat.le_of_ble_eq_true rfl) (Nat.le_of_ble_eq_true rfl) (Nat.le_of_ble_eq_true rfl) (hst := rfl) (fun _ _ _ h => h)
        refine mv_iload_n d_TrustDesk_nearAt_0 rfl rfl ?_
        have := mz_hi x3
        refine mv_if_ltZ (tgt := 29) (a := x3.toInt) d_TrustDesk_nearAt_1 (by decide) rfl (fun b20 => ?_) (fun b20 => ?_)
        · refine mv_null d_TrustDesk_nearAt_29 ?_
          refine mv_aret (r := none) d_TrustDesk_nearAt_30 rfl (by first | exact Or.inl ⟨_, rfl⟩ | exact Or.inr ⟨_, rfl⟩) ?_
          refine mv_ifnullN (tgt := 44) d_TrustDesk_isSubject_37 (by decide) ?_
          refine mv_iconst (v := 0) d_TrustDesk_isSubject_44 (by decide) ?_
          refine mv_iret d_TrustDesk_isSubject_45 rfl (by decide) ?_
          refine mv_if_eq_t (tgt := 29) d_TrustDesk_propose_14 (by decide) (by decide) ?_
          refine mv_iconst (v := (-1)) d_TrustDesk_propose_29 (by decide) ?_
          exact mv_iret d_TrustDesk_propose_30 rfl (by first | rfl | decide) ⟨_, I0, _, rfl, (Or.inl ⟨by decide, by omega, yks⟩), G0, (fun h9 => absurd h9 (by omega))⟩
        · refine mv_iload_n d_TrustDesk_nearAt_4 rfl rfl ?_
          refine mv_aload_n d_TrustDesk_nearAt_5 rfl rfl ?_
          refine tr_getK (k := 7) q_Ln d_TrustDesk_nearAt_6 f_TrustDesk_56_12 ?_
          obtain ⟨m22, e23, N24, f25, h21⟩ := tm_lsn I0 h_Ln ykn
          refine mv_callV_s (kc' := 0) (ks' := 0) [] [.ref Ln, .int x3] d_TrustDesk_nearAt_9 lV_TrustDesk_97 h21.1 rfl (tc_L_size (d := (d + 4)) h21.1) rfl (Nat.le_of_ble_eq_true rfl) (Nat.le_of_ble_eq_true rfl) (Nat.le_of_ble_eq_true rfl) rfl ?_
          have := mz_hi x3
          have := mz_hi kn
          refine mv_icmp_geZ (tgt := 29) (a := x3.toInt) (b := kn.toInt) d_TrustDesk_nearAt_12 (by decide) rfl rfl (fun b26 => ?_) (fun b26 => ?_)
          · refine mv_null d_TrustDesk_nearAt_29 ?_
            refine mv_aret (r := none) d_TrustDesk_nearAt_30 rfl (by first | exact Or.inl ⟨_, rfl⟩ | exact Or.inr ⟨_, rfl⟩) ?_
            refine mv_ifnullN (tgt := 44) d_TrustDesk_isSubject_37 (by decide) ?_
            refine mv_iconst (v := 0) d_TrustDesk_isSubject_44 (by decide) ?_
            refine mv_iret d_TrustDesk_isSubject_45 rfl (by decide) ?_
            refine mv_if_eq_t (tgt := 29) d_TrustDesk_propose_14 (by decide) (by decide) ?_
            refine mv_iconst (v := (-1)) d_TrustDesk_propose_29 (by decide) ?_
            exact mv_iret d_TrustDesk_propose_30 rfl (by first | rfl | decide) ⟨_, I0, _, rfl, (Or.inl ⟨by decide, by omega, yks⟩), G0, (fun h9 => absurd h9 (by omega))⟩
          · refine mv_aload_n d_TrustDesk_nearAt_15 rfl rfl ?_
            refine tr_getK (k := 7) q_Ln d_TrustDesk_nearAt_16 f_TrustDesk_56_12 ?_
            refine mv_iload_n d_TrustDesk_nearAt_19 rfl rfl ?_
            obtain ⟨m28, e29, N30, f31, h27⟩ := tm_lsn I0 h_Ln ykn
            obtain ⟨u32e, u32i, a33, u32f, u32t⟩ := tm_el (i := x3) h27 (by omega) (by omega)
            have t_a33 : T0 a33 = some (0, 8, 0) := u32t
            refine mv_callV_s (kc' := 0) (ks' := 0) [.int x3] [.int x3, .ref Ln] d_TrustDesk_nearAt_20 lV_TrustDesk_158 h27.1 rfl (tc_L_get (d := (d + 2)) h27.1 u32e (by omega) (by omega) u32i u32f) rfl (Nat.le_of_ble_eq_true rfl) (Nat.le_of_ble_eq_true rfl) (Nat.le_of_ble_eq_true rfl) rfl ?_
            obtain ⟨_, b34, -⟩ := I0.1 _ _ t_a33
            refine mv_castS (T9 := kF_NearEnd) (N := 2) d_TrustDesk_nearAt_23 (mj_in1 (List.mem_of_getElem? (i := 821) (by decide +kernel)) rfl) b34 rfl ?_
            refine mv_goto (tgt := 30) d_TrustDesk_nearAt_26 (by decide) ?_
            refine mv_aret (r := (some a33)) d_TrustDesk_nearAt_30 rfl (by first | exact Or.inl ⟨_, rfl⟩ | exact Or.inr ⟨_, rfl⟩) ?_
            refine mv_ifnull d_TrustDesk_isSubject_37 ?_
            refine mv_iconst (v := 1) d_TrustDesk_isSubject_40 (by decide) ?_
            refine mv_goto (tgt := 45) d_TrustDesk_isSubject_41 (by decide) ?_
            refine mv_iret d_TrustDesk_isSubject_45 rfl (by decide) ?_
            refine mv_if_eq_f (tgt := 29) d_TrustDesk_propose_14 (by decide) (by decide) ?_
            refine mv_aload_n d_TrustDesk_propose_17 rfl rfl ?_
            refine tr_getK (k := 8) q_Ls d_TrustDesk_propose_18 f_TrustDesk_59_12 ?_
            obtain ⟨m36, e37, N38, f39, h35⟩ := tm_lsn I0 h_Ls yks
            refine mv_callV_s (kc' := 4) (ks' := 302) [] [.ref Ls] d_TrustDesk_propose_21 lV_TrustDesk_97 h35.1 rfl (tc_L_size (d := (d + 6)) h35.1) rfl (Nat.le_of_ble_eq_true rfl) (Nat.le_of_ble_eq_true rfl) (Nat.le_of_ble_eq_true rfl) rfl ?_
            refine mv_bipush (v := 40) d_TrustDesk_propose_24 (by decide) ?_
            have := mz_hi ks
            refine mv_icmp_ltZ (tgt := 31) (a := ks.toInt) (b := 40) d_TrustDesk_propose_26 (by decide) rfl (by decide) (fun b40 => ?_) (fun b40 => ?_)
            · refine mv_aload_n d_TrustDesk_propose_31 rfl rfl ?_
              refine tr_getK (k := 12) yt d_TrustDesk_propose_32 f_TrustDesk_73_12 ?_
              refine mv_aload_n d_TrustDesk_propose_35 rfl rfl ?_
              refine mv_aload_n d_TrustDesk_propose_36 rfl rfl ?_
              refine tr_getK (k := 12) yt d_TrustDesk_propose_37 f_TrustDesk_73_12 ?_
              obtain ⟨_, b47, -⟩ := I0.1 _ _ h_o0
              refine mv_callV (kc' := 4) (ks' := 302) (As := [.int t]) (st9 := [.int t, .ref o0, .int t]) d_TrustDesk_propose_40 lV_TrustDesk_114 b47 rfl (tc_TrustDesk_inForce_a (d := (d + 3)) (x9 := x9) (o0 := o0) (x1 := t) h_o0 h_La q_La yk yA h_NR q_NR (hT I0) yf I0.start) rfl (Nat.le_of_ble_eq_true rfl) (Nat.le_of_ble_eq_true rfl) (Nat.le_of_ble_eq_true rfl) (hst := rfl) (fun b41r M42 n43 b41 => ?_)
              obtain ⟨T44, J45, a48, rfl, t_a48, f49⟩ := b41
              have I46 := I0.call J45 (tm_sub (by decide)) (Or.inl rfl)
              have t50 := J45.up h_o0
              have K51 : ∀ i b : Nat, tm_ge M0 Ls i b → tm_ge M42 Ls i b := fun i b h => tm_I.keepG I0.1 J45 (I0.up h_Ls) (by decide) (G0 i b h)
              have q52 := J45.keep h_o0 (by decide) q_Lg
              have t53 := J45.up h_Lg
              have q54 := J45.keepL h_Lg (by decide) ykf
              have q55 := J45.keep h_o0 (by decide) q_Ln
              have t56 := J45.up h_Ln
              have q57 := J45.keepL h_Ln (by decide) ykn
              have q58 := J45.keep h_o0 (by decide) q_Ls
              have t59 := J45.up h_Ls
              have q60 := J45.keepL h_Ls (by decide) yks
              have q61 := J45.keep h_o0 (by decide) q_La
              have t62 := J45.up h_La
              have q63 := J45.keepL h_La (by decide) yk
              have q64 := J45.keep h_o0 (by decide) q_NR
              have t65 := J45.up h_NR
              have q66 := J45.keep h_o0 (by decide) yt
              obtain ⟨f67, q68, h69⟩ := f49
              refine mv_iconst (v := 2) d_TrustDesk_propose_43 (by decide) ?_
              have : (2 : Int32).toInt = 2 := by decide
              obtain ⟨_, b76, -⟩ := I46.1 _ _ t_a48
              obtain ⟨v77, R78, q79, e80, q81, h82⟩ := q68
              have t_R78 := tm_rl9 I46.1 t_a48 q81
              refine mv_callV (kc' := 4) (ks' := 302) (As := [.int 2]) (st9 := [.int 2, .ref a48, .int t]) d_TrustDesk_propose_44 lV_TrustDesk_118 b76 rfl (tc_Act_rule_a (d := (d + 6)) (x9 := x9) (o0 := a48) (x1 := 2) t_a48 t_R78 q81 h82 (by omega) I46.start) rfl (Nat.le_of_ble_eq_true rfl) (Nat.le_of_ble_eq_true rfl) (Nat.le_of_ble_eq_true rfl) (hst := rfl) (fun b70r M71 n72 b70 => ?_)
              obtain ⟨T73, J74, v83, rfl, f84⟩ := b70
              have I75 := I46.call J74 (tm_sub (by decide)) (Or.inl rfl)
              have t85 := J74.up t50
              have K86 : ∀ i b : Nat, tm_ge M0 Ls i b → tm_ge M71 Ls i b := fun i b h => tm_I.keepG I46.1 J74 (I46.up h_Ls) (by decide) (K51 i b h)
              have q87 := J74.keep t50 (by decide) q52
              have t88 := J74.up t53
              have q89 := J74.keepL t53 (by decide) q54
              have q90 := J74.keep t50 (by decide) q55
              have t91 := J74.up t56
              have q92 := J74.keepL t56 (by decide) q57
              have q93 := J74.keep t50 (by decide) q58
              have t94 := J74.up t59
              have q95 := J74.keepL t59 (by decide) q60
              have q96 := J74.keep t50 (by decide) q61
              have t97 := J74.up t62
              have q98 := J74.keepL t62 (by decide) q63
              have q99 := J74.keep t50 (by decide) q64
              have t100 := J74.up t65
              have q101 := J74.keep t50 (by decide) q66
              have : v83.toInt = p_told fr va t.toInt A 2 := by have e9 : v83.toInt = p_told fr va t.toInt A ((2 : Int32).toInt).toNat := f84; rw [show ((2 : Int32).toInt).toNat = 2 from by decide] at e9; exact e9
              have := yv t.toInt
              refine mv_iadd d_TrustDesk_propose_47 ?_
              refine mv_istore (lv' := [(4, .int (t + v83)), (0, .ref o0), (1, .int x1), (2, .int x2), (3, .int x3)]) d_TrustDesk_propose_48 (by decide) rfl ?_
              refine mv_aload_n d_TrustDesk_propose_50 rfl rfl ?_
              refine tr_getK (k := 8) q93 d_TrustDesk_propose_51 f_TrustDesk_59_12 ?_
              refine tr_new (kc' := 3) (ks' := 290) tm_okF I75 d_TrustDesk_propose_54 n_TrustDesk_271 (Nat.le_of_ble_eq_true rfl) (Nat.le_of_ble_eq_true rfl) (fun T102 M103 I104 t_x105 m106 h107 u108 K109 => ?_)
              have K110 : ∀ i b : Nat, tm_ge M0 Ls i b → tm_ge M103 Ls i b := fun i b h => tm_ge.mono I75.1 (I75.up h_Ls) (K109 _ _ (I75.up h_Ls)) (fun e te => K109 _ _ te) (K86 i b h)
              have q111 := tm_at.eq (K109 _ _ t85) q87
              have t112 := u108 _ _ t88
              have t113 := u108 _ _ t85
              have q114 := tm_at.eq (K109 _ _ t88) q89
              have q115 := tm_at.eq (K109 _ _ t85) q90
              have t116 := u108 _ _ t91
              have q117 := tm_at.eq (K109 _ _ t91) q92
              have q118 := tm_at.eq (K109 _ _ t85) q93
              have t119 := u108 _ _ t94
              have q120 := tm_at.eq (K109 _ _ t94) q95
              have q121 := tm_at.eq (K109 _ _ t85) q96
              have t122 := u108 _ _ t97
              have q123 := tm_at.eq (K109 _ _ t97) q98
              have q124 := tm_at.eq (K109 _ _ t85) q99
              have t125 := u108 _ _ t100
              have q126 := tm_at.eq (K109 _ _ t85) q101
              refine mv_dup d_TrustDesk_propose_57 rfl ?_
              refine mv_iload_n d_TrustDesk_propose_58 rfl rfl ?_
              refine mv_iload_n d_TrustDesk_propose_59 rfl rfl ?_
              refine mv_iload_n d_TrustDesk_propose_60 rfl rfl ?_
              refine mv_aload_n d_TrustDesk_propose_61 rfl rfl ?_
              refine tr_getK (k := 12) q126 d_TrustDesk_propose_62 f_TrustDesk_73_12 ?_
              refine mv_iload d_TrustDesk_propose_65 rfl ?_
              refine mv_callI (kc' := 1) (ks' := 90) (As := [.int x1, .int x2, .int x3, .int t, .int (t + v83)]) (st9 := [.int (t + v83), .int t, .int x3, .int x2, .int x1, .ref n72, .ref n72, .ref Ls]) d_TrustDesk_propose_67 lI_TrustDesk_273 (tc_Scheme_init_h (d := (d + 5)) (o0 := n72) (x1 := x1) (x2 := x2) (x3 := x3) (x4 := t) (x5 := (t + v83)) t_x105 m106 I104.start) rfl (Nat.le_of_ble_eq_true rfl) (Nat.le_of_ble_eq_true rfl) (Nat.le_of_ble_eq_true rfl) (hst := rfl) (fun b127r M128 n129 b127 => ?_)
              obtain ⟨T130, J131, rfl, a133, a134, m135, t_a133, t_a134, z136⟩ := b127
              have I132 := I104.call J131 (tm_sub (by decide)) (Or.inr h107)
              have t137 := J131.up t_x105
              have t138 := J131.up t113
              have t139 := J131.up t119
              have K140 : ∀ i b : Nat, tm_ge M0 Ls i b → tm_ge M128 Ls i b := fun i b h => tm_I.keepG I104.1 J131 (I104.up h_Ls) (by decide) (K110 i b h)
              have q141 := J131.keep t113 (by decide) q111
              have t142 := J131.up t112
              have q143 := J131.keepL t112 (by decide) q114
              have q144 := J131.keep t113 (by decide) q115
              have t145 := J131.up t116
              have q146 := J131.keepL t116 (by decide) q117
              have q147 := J131.keep t113 (by decide) q118
              have q148 := J131.keepL t119 (by decide) q120
              have q149 := J131.keep t113 (by decide) q121
              have t150 := J131.up t122
              have q151 := J131.keepL t122 (by decide) q123
              have q152 := J131.keep t113 (by decide) q124
              have t153 := J131.up t125
              have q154 := J131.keep t113 (by decide) q126
              obtain ⟨T155, I156, t_x157, u158⟩ := I132.sealO tm_okF t137 h107 m135 (fun _ z9 => (tm_fs_cons ⟨_, rfl⟩ (tm_fs_cons ⟨_, rfl⟩ (tm_fs_cons ⟨_, rfl⟩ (tm_fs_cons ⟨_, rfl⟩ (tm_fs_cons ⟨_, rfl⟩ (tm_fs_cons ⟨_, rfl⟩ (tm_fs_cons ⟨_, rfl⟩ (tm_fs_cons ⟨_, rfl⟩ (tm_fs_cons ⟨_, rfl⟩ (tm_fs_cons ⟨_, rfl⟩ (tm_fs_cons ⟨_, rfl, z9 _ _ t_a133 (Nat.le_of_ble_eq_true rfl)⟩ (tm_fs_cons ⟨_, rfl, z9 _ _ t_a134 (Nat.le_of_ble_eq_true rfl)⟩ tm_fs_nil)))))))))))))
              have t159 := u158 _ _ t142 (tm_dif t142 t137 rfl)
              have t160 := u158 _ _ t138 (tm_dif t138 t137 rfl)
              have t161 := u158 _ _ t145 (tm_dif t145 t137 rfl)
              have t162 := u158 _ _ t139 (tm_dif t139 t137 rfl)
              have t163 := u158 _ _ t150 (tm_dif t150 t137 rfl)
              have t164 := u158 _ _ t153 (tm_dif t153 t137 rfl)
              have q165 : tm_at M128 n72 11 0 (.int x1) := ⟨_, m135, rfl⟩
              have q166 : tm_at M128 n72 11 1 (.int x2) := ⟨_, m135, rfl⟩
              have q167 : tm_at M128 n72 11 2 (.int x3) := ⟨_, m135, rfl⟩
              have q168 : tm_at M128 n72 11 3 (.int t) := ⟨_, m135, rfl⟩
              have q169 : tm_at M128 n72 11 4 (.int (t + v83)) := ⟨_, m135, rfl⟩
              have q170 : tm_at M128 n72 11 5 (.int 0) := ⟨_, m135, rfl⟩
              have q171 : tm_at M128 n72 11 6 (.int 0) := ⟨_, m135, rfl⟩
              have q172 : tm_at M128 n72 11 7 (.int 0) := ⟨_, m135, rfl⟩
              have q173 : tm_at M128 n72 11 8 (.int 0) := ⟨_, m135, rfl⟩
              have q174 : tm_at M128 n72 11 9 (.int 0) := ⟨_, m135, rfl⟩
              have q175 : tm_at M128 n72 11 10 (.ref a133) := ⟨_, m135, rfl⟩
              have t176 := u158 _ _ t_a133 (tm_dif t_a133 t137 rfl)
              have q177 : tm_at M128 n72 11 11 (.ref a134) := ⟨_, m135, rfl⟩
              have t178 := u158 _ _ t_a134 (tm_dif t_a134 t137 rfl)
              have z179 : M128 a133 = some (.inl (2, 100, .inl (fun _ => 0))) := z136.2
              have : tm_mx 11 = 40 := rfl
              obtain ⟨m181, e182, N183, f184, h180⟩ := tm_lsn I156 t162 q148
              refine mv_callV (kc' := 0) (ks' := 0) (As := [.ref n72]) (st9 := [.ref n72, .ref Ls]) d_TrustDesk_propose_70 lV_TrustDesk_107 h180.1 rfl (tc_AL_addK (FT := tm_FT) (W := tm_in [5011]) (x := x9) (d := d) tm_okF t162 t_x157 q148 (show _ < (40 : Int) by omega) rfl (C := "TrustDesk$Scheme") (T9 := kF_Scheme) (N9 := 12) rfl (mj_in1 (List.mem_of_getElem? (i := 2108) (by decide +kernel)) rfl) (by decide) (by decide) I156.start) rfl (Nat.le_of_ble_eq_true rfl) (Nat.le_of_ble_eq_true rfl) (Nat.le_of_ble_eq_true rfl) (hst := rfl) (fun b185r M186 n187 b185 => ?_)
              obtain ⟨T188, J189, rfl, q191, K192, K193, g194⟩ := b185
              have I190 := I156.call J189 (tm_sub (by decide)) (Or.inl rfl)
              have t195 := J189.up t162
              have t196 := J189.up t160
              have q197 := J189.keep t160 (by decide) q141
              have t198 := J189.up t159
              have q199 := J189.keepL t159 (by decide) q143
              have q200 := J189.keep t160 (by decide) q144
              have t201 := J189.up t161
              have q202 := J189.keepL t161 (by decide) q146
              have q203 := J189.keep t160 (by decide) q147
              have q204 := J189.keep t160 (by decide) q149
              have t205 := J189.up t163
              have q206 := J189.keepL t163 (by decide) q151
              have q207 := J189.keep t160 (by decide) q152
              have t208 := J189.up t164
              have q209 := J189.keep t160 (by decide) q154
              have K210 : ∀ i b : Nat, tm_ge M0 Ls i b → tm_ge M186 Ls i b := fun i b h => K193 _ _ (K140 i b h)
              have z211 : M186 a133 = some (.inl (2, 100, .inl (fun _ => 0))) := (tm_keepH J189 t176 (by decide)).trans z179
              have q212 := J189.keep t_x157 (by decide) q169
              have q213 := J189.keep t_x157 (by decide) q170
              have q214 := J189.keep t_x157 (by decide) q172
              have q215 := J189.keep t_x157 (by decide) q175
              have b216 : (ks + 1).toInt = ks.toInt + 1 := mz_addn 1 1 (by decide) (by have := mz_lo ks; omega) (by omega)
              refine mv_pop d_TrustDesk_propose_73 rfl ?_
              refine mv_aload_n d_TrustDesk_propose_74 rfl rfl ?_
              refine tr_getK (k := 8) q203 d_TrustDesk_propose_75 f_TrustDesk_59_12 ?_
              obtain ⟨m218, e219, N220, f221, h217⟩ := tm_lsn I190 t195 q191
              refine mv_callV_s (kc' := 0) (ks' := 0) [] [.ref Ls] d_TrustDesk_propose_78 lV_TrustDesk_97 h217.1 rfl (tc_L_size (d := (d + 6)) h217.1) rfl (Nat.le_of_ble_eq_true rfl) (Nat.le_of_ble_eq_true rfl) (Nat.le_of_ble_eq_true rfl) rfl ?_
              refine mv_iconst (v := 1) d_TrustDesk_propose_81 (by decide) ?_
              refine mv_isubv (v := ks) d_TrustDesk_propose_82 (Int32.add_sub_cancel _ _) ?_
              exact mv_iret d_TrustDesk_propose_83 rfl (by first | rfl | decide) ⟨_, I190, _, rfl, (Or.inr ⟨by omega, by omega, _, q191, by omega⟩), K210, (fun _ => ⟨_, _, _, g194, q212, (mz_add2 rfl rfl (by omega) (by omega)).trans (by omega), q213, q214, q215, (Nat.le_trans I104.2.2.2.1 z136.1), z211⟩)⟩
            · refine mv_iconst (v := (-1)) d_TrustDesk_propose_29 (by decide) ?_
              exact mv_iret d_TrustDesk_propose_30 rfl (by first | rfl | decide) ⟨_, I0, _, rfl, (Or.inl ⟨by decide, by omega, yks⟩), G0, (fun h9 => absurd h9 (by omega))⟩
      · refine mv_tableIn (tgt := 46) (off := 45) d_TrustDesk_isSubject_1 (by omega) (by omega) (by rw [b18]; rfl) (by decide) ?_
        refine mv_aload_n d_TrustDesk_isSubject_46 rfl rfl ?_
        refine mv_iload_n d_TrustDesk_isSubject_47 rfl rfl ?_
        obtain ⟨_, b222, -⟩ := I0.1 _ _ h_o0
        refine mv_callV (kc1 := 0) (ks1 := 0) (kc' := 0) (ks' := 0) (As := [.int x3]) (st9 := [.int x3, .ref o0]) d_TrustDesk_isSubject_48 lV_TrustDesk_257 b222 rfl (mj_enter (by decide) (Nat.le_of_ble_eq_true rfl) ?_) rfl (Nat.le_of_ble_eq_true rfl) (Nat.le_of_ble_eq_true rfl) (Nat.le_of_ble_eq_true rfl) (hst := rfl) (fun _ _ _ h => h)
        refine mv_iload_n d_TrustDesk_fundAt_0 rfl rfl ?_
        have := mz_hi x3
        refine mv_if_ltZ (tgt := 29) (a := x3.toInt) d_TrustDesk_fundAt_1 (by decide) rfl (fun b223 => ?_) (fun b223 => ?_)
        · refine mv_null d_TrustDesk_fundAt_29 ?_
          refine mv_aret (r := none) d_TrustDesk_fundAt_30 rfl (by first | exact Or.inl ⟨_, rfl⟩ | exact Or.inr ⟨_, rfl⟩) ?_
          refine mv_ifnullN (tgt := 58) d_TrustDesk_isSubject_51 (by decide) ?_
          refine mv_iconst (v := 0) d_TrustDesk_isSubject_58 (by decide) ?_
          refine mv_iret d_TrustDesk_isSubject_59 rfl (by decide) ?_
          refine mv_if_eq_t (tgt := 29) d_TrustDesk_propose_14 (by decide) (by decide) ?_
          refine mv_iconst (v := (-1)) d_TrustDesk_propose_29 (by decide) ?_
          exact mv_iret d_TrustDesk_propose_30 rfl (by first | rfl | decide) ⟨_, I0, _, rfl, (Or.inl ⟨by decide, by omega, yks⟩), G0, (fun h9 => absurd h9 (by omega))⟩
        · refine mv_iload_n d_TrustDesk_fundAt_4 rfl rfl ?_
          refine mv_aload_n d_TrustDesk_fundAt_5 rfl rfl ?_
          refine tr_getK (k := 6) q_Lg d_TrustDesk_fundAt_6 f_TrustDesk_53_12 ?_
          obtain ⟨m225, e226, N227, f228, h224⟩ := tm_lsn I0 h_Lg ykf
          refine mv_callV_s (kc' := 0) (ks' := 0) [] [.ref Lg, .int x3] d_TrustDesk_fundAt_9 lV_TrustDesk_97 h224.1 rfl (tc_L_size (d := (d + 4)) h224.1) rfl (Nat.le_of_ble_eq_true rfl) (Nat.le_of_ble_eq_true rfl) (Nat.le_of_ble_eq_true rfl) rfl ?_
          have := mz_hi x3
          have := mz_hi kf
          refine mv_icmp_geZ (tgt := 29) (a := x3.toInt) (b := kf.toInt) d_TrustDesk_fundAt_12 (by decide) rfl rfl (fun b229 => ?_) (fun b229 => ?_)
          · refine mv_null d_TrustDesk_fundAt_29 ?_
            refine mv_aret (r := none) d_TrustDesk_fundAt_30 rfl (by first | exact Or.inl ⟨_, rfl⟩ | exact Or.inr ⟨_, rfl⟩) ?_
            refine mv_ifnullN (tgt := 58) d_TrustDesk_isSubject_51 (by decide) ?_
            refine mv_iconst (v := 0) d_TrustDesk_isSubject_58 (by decide) ?_
            refine mv_iret d_TrustDesk_isSubject_59 rfl (by decide) ?_
            refine mv_if_eq_t (tgt := 29) d_TrustDesk_propose_14 (by decide) (by decide) ?_
            refine mv_iconst (v := (-1)) d_TrustDesk_propose_29 (by decide) ?_
            exact mv_iret d_TrustDesk_propose_30 rfl (by first | rfl | decide) ⟨_, I0, _, rfl, (Or.inl ⟨by decide, by omega, yks⟩), G0, (fun h9 => absurd h9 (by omega))⟩
          · refine mv_aload_n d_TrustDesk_fundAt_15 rfl rfl ?_
            refine tr_getK (k := 6) q_Lg d_TrustDesk_fundAt_16 f_TrustDesk_53_12 ?_
            refine mv_iload_n d_TrustDesk_fundAt_19 rfl rfl ?_
            obtain ⟨m231, e232, N233, f234, h230⟩ := tm_lsn I0 h_Lg ykf
            obtain ⟨u235e, u235i, a236, u235f, u235t⟩ := tm_el (i := x3) h230 (by omega) (by omega)
            have t_a236 : T0 a236 = some (0, 6, 0) := u235t
            refine mv_callV_s (kc' := 0) (ks' := 0) [.int x3] [.int x3, .ref Lg] d_TrustDesk_fundAt_20 lV_TrustDesk_158 h230.1 rfl (tc_L_get (d := (d + 2)) h230.1 u235e (by omega) (by omega) u235i u235f) rfl (Nat.le_of_ble_eq_true rfl) (Nat.le_of_ble_eq_true rfl) (Nat.le_of_ble_eq_true rfl) rfl ?_
            obtain ⟨_, b237, -⟩ := I0.1 _ _ t_a236
            refine mv_castS (T9 := kF_Fund) (N := 15) d_TrustDesk_fundAt_23 (mj_in1 (List.mem_of_getElem? (i := 655) (by decide +kernel)) rfl) b237 rfl ?_
            refine mv_goto (tgt := 30) d_TrustDesk_fundAt_26 (by decide) ?_
            refine mv_aret (r := (some a236)) d_TrustDesk_fundAt_30 rfl (by first | exact Or.inl ⟨_, rfl⟩ | exact Or.inr ⟨_, rfl⟩) ?_
            refine mv_ifnull d_TrustDesk_isSubject_51 ?_
            refine mv_iconst (v := 1) d_TrustDesk_isSubject_54 (by decide) ?_
            refine mv_goto (tgt := 59) d_TrustDesk_isSubject_55 (by decide) ?_
            refine mv_iret d_TrustDesk_isSubject_59 rfl (by decide) ?_
            refine mv_if_eq_f (tgt := 29) d_TrustDesk_propose_14 (by decide) (by decide) ?_
            refine mv_aload_n d_TrustDesk_propose_17 rfl rfl ?_
            refine tr_getK (k := 8) q_Ls d_TrustDesk_propose_18 f_TrustDesk_59_12 ?_
            obtain ⟨m239, e240, N241, f242, h238⟩ := tm_lsn I0 h_Ls yks
            refine mv_callV_s (kc' := 4) (ks' := 302) [] [.ref Ls] d_TrustDesk_propose_21 lV_TrustDesk_97 h238.1 rfl (tc_L_size (d := (d + 6)) h238.1) rfl (Nat.le_of_ble_eq_true rfl) (Nat.le_of_ble_eq_true rfl) (Nat.le_of_ble_eq_true rfl) rfl ?_
            refine mv_bipush (v := 40) d_TrustDesk_propose_24 (by decide) ?_
            have := mz_hi ks
            refine mv_icmp_ltZ (tgt := 31) (a := ks.toInt) (b := 40) d_TrustDesk_propose_26 (by decide) rfl (by decide) (fun b243 => ?_) (fun b243 => ?_)
            · refine mv_aload_n d_TrustDesk_propose_31 rfl rfl ?_
              refine tr_getK (k := 12) yt d_TrustDesk_propose_32 f_TrustDesk_73_12 ?_
              refine mv_aload_n d_TrustDesk_propose_35 rfl rfl ?_
              refine mv_aload_n d_TrustDesk_propose_36 rfl rfl ?_
              refine tr_getK (k := 12) yt d_TrustDesk_propose_37 f_TrustDesk_73_12 ?_
              obtain ⟨_, b250, -⟩ := I0.1 _ _ h_o0
              refine mv_callV (kc' := 4) (ks' := 302) (As := [.int t]) (st9 := [.int t, .ref o0, .int t]) d_TrustDesk_propose_40 lV_TrustDesk_114 b250 rfl (tc_TrustDesk_inForce_a (d := (d + 3)) (x9 := x9) (o0 := o0) (x1 := t) h_o0 h_La q_La yk yA h_NR q_NR (hT I0) yf I0.start) rfl (Nat.le_of_ble_eq_true rfl) (Nat.le_of_ble_eq_true rfl) (Nat.le_of_ble_eq_true rfl) (hst := rfl) (fun b244r M245 n246 b244 => ?_)
              obtain ⟨T247, J248, a251, rfl, t_a251, f252⟩ := b244
              have I249 := I0.call J248 (tm_sub (by decide)) (Or.inl rfl)
              have t253 := J248.up h_o0
              have K254 : ∀ i b : Nat, tm_ge M0 Ls i b → tm_ge M245 Ls i b := fun i b h => tm_I.keepG I0.1 J248 (I0.up h_Ls) (by decide) (G0 i b h)
              have q255 := J248.keep h_o0 (by decide) q_Lg
              have t256 := J248.up h_Lg
              have q257 := J248.keepL h_Lg (by decide) ykf
              have q258 := J248.keep h_o0 (by decide) q_Ln
              have t259 := J248.up h_Ln
              have q260 := J248.keepL h_Ln (by decide) ykn
              have q261 := J248.keep h_o0 (by decide) q_Ls
              have t262 := J248.up h_Ls
              have q263 := J248.keepL h_Ls (by decide) yks
              have q264 := J248.keep h_o0 (by decide) q_La
              have t265 := J248.up h_La
              have q266 := J248.keepL h_La (by decide) yk
              have q267 := J248.keep h_o0 (by decide) q_NR
              have t268 := J248.up h_NR
              have q269 := J248.keep h_o0 (by decide) yt
              obtain ⟨f270, q271, h272⟩ := f252
              refine mv_iconst (v := 2) d_TrustDesk_propose_43 (by decide) ?_
              have : (2 : Int32).toInt = 2 := by decide
              obtain ⟨_, b279, -⟩ := I249.1 _ _ t_a251
              obtain ⟨v280, R281, q282, e283, q284, h285⟩ := q271
              have t_R281 := tm_rl9 I249.1 t_a251 q284
              refine mv_callV (kc' := 4) (ks' := 302) (As := [.int 2]) (st9 := [.int 2, .ref a251, .int t]) d_TrustDesk_propose_44 lV_TrustDesk_118 b279 rfl (tc_Act_rule_a (d := (d + 6)) (x9 := x9) (o0 := a251) (x1 := 2) t_a251 t_R281 q284 h285 (by omega) I249.start) rfl (Nat.le_of_ble_eq_true rfl) (Nat.le_of_ble_eq_true rfl) (Nat.le_of_ble_eq_true rfl) (hst := rfl) (fun b273r M274 n275 b273 => ?_)
              obtain ⟨T276, J277, v286, rfl, f287⟩ := b273
              have I278 := I249.call J277 (tm_sub (by decide)) (Or.inl rfl)
              have t288 := J277.up t253
              have K289 : ∀ i b : Nat, tm_ge M0 Ls i b → tm_ge M274 Ls i b := fun i b h => tm_I.keepG I249.1 J277 (I249.up h_Ls) (by decide) (K254 i b h)
              have q290 := J277.keep t253 (by decide) q255
              have t291 := J277.up t256
              have q292 := J277.keepL t256 (by decide) q257
              have q293 := J277.keep t253 (by decide) q258
              have t294 := J277.up t259
              have q295 := J277.keepL t259 (by decide) q260
              have q296 := J277.keep t253 (by decide) q261
              have t297 := J277.up t262
              have q298 := J277.keepL t262 (by decide) q263
              have q299 := J277.keep t253 (by decide) q264
              have t300 := J277.up t265
              have q301 := J277.keepL t265 (by decide) q266
              have q302 := J277.keep t253 (by decide) q267
              have t303 := J277.up t268
              have q304 := J277.keep t253 (by decide) q269
              have : v286.toInt = p_told fr va t.toInt A 2 := by have e9 : v286.toInt = p_told fr va t.toInt A ((2 : Int32).toInt).toNat := f287; rw [show ((2 : Int32).toInt).toNat = 2 from by decide] at e9; exact e9
              have := yv t.toInt
              refine mv_iadd d_TrustDesk_propose_47 ?_
              refine mv_istore (lv' := [(4, .int (t + v286)), (0, .ref o0), (1, .int x1), (2, .int x2), (3, .int x3)]) d_TrustDesk_propose_48 (by decide) rfl ?_
              refine mv_aload_n d_TrustDesk_propose_50 rfl rfl ?_
              refine tr_getK (k := 8) q296 d_TrustDesk_propose_51 f_TrustDesk_59_12 ?_
              refine tr_new (kc' := 3) (ks' := 290) tm_okF I278 d_TrustDesk_propose_54 n_TrustDesk_271 (Nat.le_of_ble_eq_true rfl) (Nat.le_of_ble_eq_true rfl) (fun T305 M306 I307 t_x308 m309 h310 u311 K312 => ?_)
              have K313 : ∀ i b : Nat, tm_ge M0 Ls i b → tm_ge M306 Ls i b := fun i b h => tm_ge.mono I278.1 (I278.up h_Ls) (K312 _ _ (I278.up h_Ls)) (fun e te => K312 _ _ te) (K289 i b h)
              have q314 := tm_at.eq (K312 _ _ t288) q290
              have t315 := u311 _ _ t291
              have t316 := u311 _ _ t288
              have q317 := tm_at.eq (K312 _ _ t291) q292
              have q318 := tm_at.eq (K312 _ _ t288) q293
              have t319 := u311 _ _ t294
              have q320 := tm_at.eq (K312 _ _ t294) q295
              have q321 := tm_at.eq (K312 _ _ t288) q296
              have t322 := u311 _ _ t297
              have q323 := tm_at.eq (K312 _ _ t297) q298
              have q324 := tm_at.eq (K312 _ _ t288) q299
              have t325 := u311 _ _ t300
              have q326 := tm_at.eq (K312 _ _ t300) q301
              have q327 := tm_at.eq (K312 _ _ t288) q302
              have t328 := u311 _ _ t303
              have q329 := tm_at.eq (K312 _ _ t288) q304
              refine mv_dup d_TrustDesk_propose_57 rfl ?_
              refine mv_iload_n d_TrustDesk_propose_58 rfl rfl ?_
              refine mv_iload_n d_TrustDesk_propose_59 rfl rfl ?_
              refine mv_iload_n d_TrustDesk_propose_60 rfl rfl ?_
              refine mv_aload_n d_TrustDesk_propose_61 rfl rfl ?_
              refine tr_getK (k := 12) q329 d_TrustDesk_propose_62 f_TrustDesk_73_12 ?_
              refine mv_iload d_TrustDesk_propose_65 rfl ?_
              refine mv_callI (kc' := 1) (ks' := 90) (As := [.int x1, .int x2, .int x3, .int t, .int (t + v286)]) (st9 := [.int (t + v286), .int t, .int x3, .int x2, .int x1, .ref n275, .ref n275, .ref Ls]) d_TrustDesk_propose_67 lI_TrustDesk_273 (tc_Scheme_init_h (d := (d + 5)) (o0 := n275) (x1 := x1) (x2 := x2) (x3 := x3) (x4 := t) (x5 := (t + v286)) t_x308 m309 I307.start) rfl (Nat.le_of_ble_eq_true rfl) (Nat.le_of_ble_eq_true rfl) (Nat.le_of_ble_eq_true rfl) (hst := rfl) (fun b330r M331 n332 b330 => ?_)
              obtain ⟨T333, J334, rfl, a336, a337, m338, t_a336, t_a337, z339⟩ := b330
              have I335 := I307.call J334 (tm_sub (by decide)) (Or.inr h310)
              have t340 := J334.up t_x308
              have t341 := J334.up t316
              have t342 := J334.up t322
              have K343 : ∀ i b : Nat, tm_ge M0 Ls i b → tm_ge M331 Ls i b := fun i b h => tm_I.keepG I307.1 J334 (I307.up h_Ls) (by decide) (K313 i b h)
              have q344 := J334.keep t316 (by decide) q314
              have t345 := J334.up t315
              have q346 := J334.keepL t315 (by decide) q317
              have q347 := J334.keep t316 (by decide) q318
              have t348 := J334.up t319
              have q349 := J334.keepL t319 (by decide) q320
              have q350 := J334.keep t316 (by decide) q321
              have q351 := J334.keepL t322 (by decide) q323
              have q352 := J334.keep t316 (by decide) q324
              have t353 := J334.up t325
              have q354 := J334.keepL t325 (by decide) q326
              have q355 := J334.keep t316 (by decide) q327
              have t356 := J334.up t328
              have q357 := J334.keep t316 (by decide) q329
              obtain ⟨T358, I359, t_x360, u361⟩ := I335.sealO tm_okF t340 h310 m338 (fun _ z9 => (tm_fs_cons ⟨_, rfl⟩ (tm_fs_cons ⟨_, rfl⟩ (tm_fs_cons ⟨_, rfl⟩ (tm_fs_cons ⟨_, rfl⟩ (tm_fs_cons ⟨_, rfl⟩ (tm_fs_cons ⟨_, rfl⟩ (tm_fs_cons ⟨_, rfl⟩ (tm_fs_cons ⟨_, rfl⟩ (tm_fs_cons ⟨_, rfl⟩ (tm_fs_cons ⟨_, rfl⟩ (tm_fs_cons ⟨_, rfl, z9 _ _ t_a336 (Nat.le_of_ble_eq_true rfl)⟩ (tm_fs_cons ⟨_, rfl, z9 _ _ t_a337 (Nat.le_of_ble_eq_true rfl)⟩ tm_fs_nil)))))))))))))
              have t362 := u361 _ _ t345 (tm_dif t345 t340 rfl)
              have t363 := u361 _ _ t341 (tm_dif t341 t340 rfl)
              have t364 := u361 _ _ t348 (tm_dif t348 t340 rfl)
              have t365 := u361 _ _ t342 (tm_dif t342 t340 rfl)
              have t366 := u361 _ _ t353 (tm_dif t353 t340 rfl)
              have t367 := u361 _ _ t356 (tm_dif t356 t340 rfl)
              have q368 : tm_at M331 n275 11 0 (.int x1) := ⟨_, m338, rfl⟩
              have q369 : tm_at M331 n275 11 1 (.int x2) := ⟨_, m338, rfl⟩
              have q370 : tm_at M331 n275 11 2 (.int x3) := ⟨_, m338, rfl⟩
              have q371 : tm_at M331 n275 11 3 (.int t) := ⟨_, m338, rfl⟩
              have q372 : tm_at M331 n275 11 4 (.int (t + v286)) := ⟨_, m338, rfl⟩
              have q373 : tm_at M331 n275 11 5 (.int 0) := ⟨_, m338, rfl⟩
              have q374 : tm_at M331 n275 11 6 (.int 0) := ⟨_, m338, rfl⟩
              have q375 : tm_at M331 n275 11 7 (.int 0) := ⟨_, m338, rfl⟩
              have q376 : tm_at M331 n275 11 8 (.int 0) := ⟨_, m338, rfl⟩
              have q377 : tm_at M331 n275 11 9 (.int 0) := ⟨_, m338, rfl⟩
              have q378 : tm_at M331 n275 11 10 (.ref a336) := ⟨_, m338, rfl⟩
              have t379 := u361 _ _ t_a336 (tm_dif t_a336 t340 rfl)
              have q380 : tm_at M331 n275 11 11 (.ref a337) := ⟨_, m338, rfl⟩
              have t381 := u361 _ _ t_a337 (tm_dif t_a337 t340 rfl)
              have z382 : M331 a336 = some (.inl (2, 100, .inl (fun _ => 0))) := z339.2
              have : tm_mx 11 = 40 := rfl
              obtain ⟨m384, e385, N386, f387, h383⟩ := tm_lsn I359 t365 q351
              refine mv_callV (kc' := 0) (ks' := 0) (As := [.ref n275]) (st9 := [.ref n275, .ref Ls]) d_TrustDesk_propose_70 lV_TrustDesk_107 h383.1 rfl (tc_AL_addK (FT := tm_FT) (W := tm_in [5011]) (x := x9) (d := d) tm_okF t365 t_x360 q351 (show _ < (40 : Int) by omega) rfl (C := "TrustDesk$Scheme") (T9 := kF_Scheme) (N9 := 12) rfl (mj_in1 (List.mem_of_getElem? (i := 2108) (by decide +kernel)) rfl) (by decide) (by decide) I359.start) rfl (Nat.le_of_ble_eq_true rfl) (Nat.le_of_ble_eq_true rfl) (Nat.le_of_ble_eq_true rfl) (hst := rfl) (fun b388r M389 n390 b388 => ?_)
              obtain ⟨T391, J392, rfl, q394, K395, K396, g397⟩ := b388
              have I393 := I359.call J392 (tm_sub (by decide)) (Or.inl rfl)
              have t398 := J392.up t365
              have t399 := J392.up t363
              have q400 := J392.keep t363 (by decide) q344
              have t401 := J392.up t362
              have q402 := J392.keepL t362 (by decide) q346
              have q403 := J392.keep t363 (by decide) q347
              have t404 := J392.up t364
              have q405 := J392.keepL t364 (by decide) q349
              have q406 := J392.keep t363 (by decide) q350
              have q407 := J392.keep t363 (by decide) q352
              have t408 := J392.up t366
              have q409 := J392.keepL t366 (by decide) q354
              have q410 := J392.keep t363 (by decide) q355
              have t411 := J392.up t367
              have q412 := J392.keep t363 (by decide) q357
              have K413 : ∀ i b : Nat, tm_ge M0 Ls i b → tm_ge M389 Ls i b := fun i b h => K396 _ _ (K343 i b h)
              have z414 : M389 a336 = some (.inl (2, 100, .inl (fun _ => 0))) := (tm_keepH J392 t379 (by decide)).trans z382
              have q415 := J392.keep t_x360 (by decide) q372
              have q416 := J392.keep t_x360 (by decide) q373
              have q417 := J392.keep t_x360 (by decide) q375
              have q418 := J392.keep t_x360 (by decide) q378
              have b419 : (ks + 1).toInt = ks.toInt + 1 := mz_addn 1 1 (by decide) (by have := mz_lo ks; omega) (by omega)
              refine mv_pop d_TrustDesk_propose_73 rfl ?_
              refine mv_aload_n d_TrustDesk_propose_74 rfl rfl ?_
              refine tr_getK (k := 8) q406 d_TrustDesk_propose_75 f_TrustDesk_59_12 ?_
              obtain ⟨m421, e422, N423, f424, h420⟩ := tm_lsn I393 t398 q394
              refine mv_callV_s (kc' := 0) (ks' := 0) [] [.ref Ls] d_TrustDesk_propose_78 lV_TrustDesk_97 h420.1 rfl (tc_L_size (d := (d + 6)) h420.1) rfl (Nat.le_of_ble_eq_true rfl) (Nat.le_of_ble_eq_true rfl) (Nat.le_of_ble_eq_true rfl) rfl ?_
              refine mv_iconst (v := 1) d_TrustDesk_propose_81 (by decide) ?_
              refine mv_isubv (v := ks) d_TrustDesk_propose_82 (Int32.add_sub_cancel _ _) ?_
              exact mv_iret d_TrustDesk_propose_83 rfl (by first | rfl | decide) ⟨_, I393, _, rfl, (Or.inr ⟨by omega, by omega, _, q394, by omega⟩), K413, (fun _ => ⟨_, _, _, g397, q415, (mz_add2 rfl rfl (by omega) (by omega)).trans (by omega), q416, q417, q418, (Nat.le_trans I307.2.2.2.1 z339.1), z414⟩)⟩
            · refine mv_iconst (v := (-1)) d_TrustDesk_propose_29 (by decide) ?_
              exact mv_iret d_TrustDesk_propose_30 rfl (by first | rfl | decide) ⟨_, I0, _, rfl, (Or.inl ⟨by decide, by omega, yks⟩), G0, (fun h9 => absurd h9 (by omega))⟩
      · refine mv_tableIn (tgt := 60) (off := 59) d_TrustDesk_isSubject_1 (by omega) (by omega) (by rw [b18]; rfl) (by decide) ?_
        refine mv_iload_n d_TrustDesk_isSubject_60 rfl rfl ?_
        refine mv_iconst (v := 1) d_TrustDesk_isSubject_61 (by decide) ?_
        have := mz_hi x3
        refine mv_icmp_ltZ (tgt := 76) (a := x3.toInt) (b := 1) d_TrustDesk_isSubject_62 (by decide) rfl (by decide) (fun b425 => ?_) (fun b425 => ?_)
        · refine mv_iconst (v := 0) d_TrustDesk_isSubject_76 (by decide) ?_
          refine mv_iret d_TrustDesk_isSubject_77 rfl (by decide) ?_
          refine mv_if_eq_t (tgt := 29) d_TrustDesk_propose_14 (by decide) (by decide) ?_
          refine mv_iconst (v := (-1)) d_TrustDesk_propose_29 (by decide) ?_
          exact mv_iret d_TrustDesk_propose_30 rfl (by first | rfl | decide) ⟨_, I0, _, rfl, (Or.inl ⟨by decide, by omega, yks⟩), G0, (fun h9 => absurd h9 (by omega))⟩
        · refine mv_iload_n d_TrustDesk_isSubject_65 rfl rfl ?_
          refine mv_sipush (v := 999) d_TrustDesk_isSubject_66 (by decide) ?_
          have := mz_hi x3
          refine mv_icmp_gtZ (tgt := 76) (a := x3.toInt) (b := 999) d_TrustDesk_isSubject_69 (by decide) rfl (by decide) (fun b426 => ?_) (fun b426 => ?_)
          · refine mv_iconst (v := 0) d_TrustDesk_isSubject_76 (by decide) ?_
            refine mv_iret d_TrustDesk_isSubject_77 rfl (by decide) ?_
            refine mv_if_eq_t (tgt := 29) d_TrustDesk_propose_14 (by decide) (by decide) ?_
            refine mv_iconst (v := (-1)) d_TrustDesk_propose_29 (by decide) ?_
            exact mv_iret d_TrustDesk_propose_30 rfl (by first | rfl | decide) ⟨_, I0, _, rfl, (Or.inl ⟨by decide, by omega, yks⟩), G0, (fun h9 => absurd h9 (by omega))⟩
          · refine mv_iconst (v := 1) d_TrustDesk_isSubject_72 (by decide) ?_
            refine mv_goto (tgt := 77) d_TrustDesk_isSubject_73 (by decide) ?_
            refine mv_iret d_TrustDesk_isSubject_77 rfl (by decide) ?_
            refine mv_if_eq_f (tgt := 29) d_TrustDesk_propose_14 (by decide) (by decide) ?_
            refine mv_aload_n d_TrustDesk_propose_17 rfl rfl ?_
            refine tr_getK (k := 8) q_Ls d_TrustDesk_propose_18 f_TrustDesk_59_12 ?_
            obtain ⟨m428, e429, N430, f431, h427⟩ := tm_lsn I0 h_Ls yks
            refine mv_callV_s (kc' := 4) (ks' := 302) [] [.ref Ls] d_TrustDesk_propose_21 lV_TrustDesk_97 h427.1 rfl (tc_L_size (d := (d + 6)) h427.1) rfl (Nat.le_of_ble_eq_true rfl) (Nat.le_of_ble_eq_true rfl) (Nat.le_of_ble_eq_true rfl) rfl ?_
            refine mv_bipush (v := 40) d_TrustDesk_propose_24 (by decide) ?_
            have := mz_hi ks
            refine mv_icmp_ltZ (tgt := 31) (a := ks.toInt) (b := 40) d_TrustDesk_propose_26 (by decide) rfl (by decide) (fun b432 => ?_) (fun b432 => ?_)
            · refine mv_aload_n d_TrustDesk_propose_31 rfl rfl ?_
              refine tr_getK (k := 12) yt d_TrustDesk_propose_32 f_TrustDesk_73_12 ?_
              refine mv_aload_n d_TrustDesk_propose_35 rfl rfl ?_
              refine mv_aload_n d_TrustDesk_propose_36 rfl rfl ?_
              refine tr_getK (k := 12) yt d_TrustDesk_propose_37 f_TrustDesk_73_12 ?_
              obtain ⟨_, b439, -⟩ := I0.1 _ _ h_o0
              refine mv_callV (kc' := 4) (ks' := 302) (As := [.int t]) (st9 := [.int t, .ref o0, .int t]) d_TrustDesk_propose_40 lV_TrustDesk_114 b439 rfl (tc_TrustDesk_inForce_a (d := (d + 3)) (x9 := x9) (o0 := o0) (x1 := t) h_o0 h_La q_La yk yA h_NR q_NR (hT I0) yf I0.start) rfl (Nat.le_of_ble_eq_true rfl) (Nat.le_of_ble_eq_true rfl) (Nat.le_of_ble_eq_true rfl) (hst := rfl) (fun b433r M434 n435 b433 => ?_)
              obtain ⟨T436, J437, a440, rfl, t_a440, f441⟩ := b433
              have I438 := I0.call J437 (tm_sub (by decide)) (Or.inl rfl)
              have t442 := J437.up h_o0
              have K443 : ∀ i b : Nat, tm_ge M0 Ls i b → tm_ge M434 Ls i b := fun i b h => tm_I.keepG I0.1 J437 (I0.up h_Ls) (by decide) (G0 i b h)
              have q444 := J437.keep h_o0 (by decide) q_Lg
              have t445 := J437.up h_Lg
              have q446 := J437.keepL h_Lg (by decide) ykf
              have q447 := J437.keep h_o0 (by decide) q_Ln
              have t448 := J437.up h_Ln
              have q449 := J437.keepL h_Ln (by decide) ykn
              have q450 := J437.keep h_o0 (by decide) q_Ls
              have t451 := J437.up h_Ls
              have q452 := J437.keepL h_Ls (by decide) yks
              have q453 := J437.keep h_o0 (by decide) q_La
              have t454 := J437.up h_La
              have q455 := J437.keepL h_La (by decide) yk
              have q456 := J437.keep h_o0 (by decide) q_NR
              have t457 := J437.up h_NR
              have q458 := J437.keep h_o0 (by decide) yt
              obtain ⟨f459, q460, h461⟩ := f441
              refine mv_iconst (v := 2) d_TrustDesk_propose_43 (by decide) ?_
              have : (2 : Int32).toInt = 2 := by decide
              obtain ⟨_, b468, -⟩ := I438.1 _ _ t_a440
              obtain ⟨v469, R470, q471, e472, q473, h474⟩ := q460
              have t_R470 := tm_rl9 I438.1 t_a440 q473
              refine mv_callV (kc' := 4) (ks' := 302) (As := [.int 2]) (st9 := [.int 2, .ref a440, .int t]) d_TrustDesk_propose_44 lV_TrustDesk_118 b468 rfl (tc_Act_rule_a (d := (d + 6)) (x9 := x9) (o0 := a440) (x1 := 2) t_a440 t_R470 q473 h474 (by omega) I438.start) rfl (Nat.le_of_ble_eq_true rfl) (Nat.le_of_ble_eq_true rfl) (Nat.le_of_ble_eq_true rfl) (hst := rfl) (fun b462r M463 n464 b462 => ?_)
              obtain ⟨T465, J466, v475, rfl, f476⟩ := b462
              have I467 := I438.call J466 (tm_sub (by decide)) (Or.inl rfl)
              have t477 := J466.up t442
              have K478 : ∀ i b : Nat, tm_ge M0 Ls i b → tm_ge M463 Ls i b := fun i b h => tm_I.keepG I438.1 J466 (I438.up h_Ls) (by decide) (K443 i b h)
              have q479 := J466.keep t442 (by decide) q444
              have t480 := J466.up t445
              have q481 := J466.keepL t445 (by decide) q446
              have q482 := J466.keep t442 (by decide) q447
              have t483 := J466.up t448
              have q484 := J466.keepL t448 (by decide) q449
              have q485 := J466.keep t442 (by decide) q450
              have t486 := J466.up t451
              have q487 := J466.keepL t451 (by decide) q452
              have q488 := J466.keep t442 (by decide) q453
              have t489 := J466.up t454
              have q490 := J466.keepL t454 (by decide) q455
              have q491 := J466.keep t442 (by decide) q456
              have t492 := J466.up t457
              have q493 := J466.keep t442 (by decide) q458
              have : v475.toInt = p_told fr va t.toInt A 2 := by have e9 : v475.toInt = p_told fr va t.toInt A ((2 : Int32).toInt).toNat := f476; rw [show ((2 : Int32).toInt).toNat = 2 from by decide] at e9; exact e9
              have := yv t.toInt
              refine mv_iadd d_TrustDesk_propose_47 ?_
              refine mv_istore (lv' := [(4, .int (t + v475)), (0, .ref o0), (1, .int x1), (2, .int x2), (3, .int x3)]) d_TrustDesk_propose_48 (by decide) rfl ?_
              refine mv_aload_n d_TrustDesk_propose_50 rfl rfl ?_
              refine tr_getK (k := 8) q485 d_TrustDesk_propose_51 f_TrustDesk_59_12 ?_
              refine tr_new (kc' := 3) (ks' := 290) tm_okF I467 d_TrustDesk_propose_54 n_TrustDesk_271 (Nat.le_of_ble_eq_true rfl) (Nat.le_of_ble_eq_true rfl) (fun T494 M495 I496 t_x497 m498 h499 u500 K501 => ?_)
              have K502 : ∀ i b : Nat, tm_ge M0 Ls i b → tm_ge M495 Ls i b := fun i b h => tm_ge.mono I467.1 (I467.up h_Ls) (K501 _ _ (I467.up h_Ls)) (fun e te => K501 _ _ te) (K478 i b h)
              have q503 := tm_at.eq (K501 _ _ t477) q479
              have t504 := u500 _ _ t480
              have t505 := u500 _ _ t477
              have q506 := tm_at.eq (K501 _ _ t480) q481
              have q507 := tm_at.eq (K501 _ _ t477) q482
              have t508 := u500 _ _ t483
              have q509 := tm_at.eq (K501 _ _ t483) q484
              have q510 := tm_at.eq (K501 _ _ t477) q485
              have t511 := u500 _ _ t486
              have q512 := tm_at.eq (K501 _ _ t486) q487
              have q513 := tm_at.eq (K501 _ _ t477) q488
              have t514 := u500 _ _ t489
              have q515 := tm_at.eq (K501 _ _ t489) q490
              have q516 := tm_at.eq (K501 _ _ t477) q491
              have t517 := u500 _ _ t492
              have q518 := tm_at.eq (K501 _ _ t477) q493
              refine mv_dup d_TrustDesk_propose_57 rfl ?_
              refine mv_iload_n d_TrustDesk_propose_58 rfl rfl ?_
              refine mv_iload_n d_TrustDesk_propose_59 rfl rfl ?_
              refine mv_iload_n d_TrustDesk_propose_60 rfl rfl ?_
              refine mv_aload_n d_TrustDesk_propose_61 rfl rfl ?_
              refine tr_getK (k := 12) q518 d_TrustDesk_propose_62 f_TrustDesk_73_12 ?_
              refine mv_iload d_TrustDesk_propose_65 rfl ?_
              refine mv_callI (kc' := 1) (ks' := 90) (As := [.int x1, .int x2, .int x3, .int t, .int (t + v475)]) (st9 := [.int (t + v475), .int t, .int x3, .int x2, .int x1, .ref n464, .ref n464, .ref Ls]) d_TrustDesk_propose_67 lI_TrustDesk_273 (tc_Scheme_init_h (d := (d + 5)) (o0 := n464) (x1 := x1) (x2 := x2) (x3 := x3) (x4 := t) (x5 := (t + v475)) t_x497 m498 I496.start) rfl (Nat.le_of_ble_eq_true rfl) (Nat.le_of_ble_eq_true rfl) (Nat.le_of_ble_eq_true rfl) (hst := rfl) (fun b519r M520 n521 b519 => ?_)
              obtain ⟨T522, J523, rfl, a525, a526, m527, t_a525, t_a526, z528⟩ := b519
              have I524 := I496.call J523 (tm_sub (by decide)) (Or.inr h499)
              have t529 := J523.up t_x497
              have t530 := J523.up t505
              have t531 := J523.up t511
              have K532 : ∀ i b : Nat, tm_ge M0 Ls i b → tm_ge M520 Ls i b := fun i b h => tm_I.keepG I496.1 J523 (I496.up h_Ls) (by decide) (K502 i b h)
              have q533 := J523.keep t505 (by decide) q503
              have t534 := J523.up t504
              have q535 := J523.keepL t504 (by decide) q506
              have q536 := J523.keep t505 (by decide) q507
              have t537 := J523.up t508
              have q538 := J523.keepL t508 (by decide) q509
              have q539 := J523.keep t505 (by decide) q510
              have q540 := J523.keepL t511 (by decide) q512
              have q541 := J523.keep t505 (by decide) q513
              have t542 := J523.up t514
              have q543 := J523.keepL t514 (by decide) q515
              have q544 := J523.keep t505 (by decide) q516
              have t545 := J523.up t517
              have q546 := J523.keep t505 (by decide) q518
              obtain ⟨T547, I548, t_x549, u550⟩ := I524.sealO tm_okF t529 h499 m527 (fun _ z9 => (tm_fs_cons ⟨_, rfl⟩ (tm_fs_cons ⟨_, rfl⟩ (tm_fs_cons ⟨_, rfl⟩ (tm_fs_cons ⟨_, rfl⟩ (tm_fs_cons ⟨_, rfl⟩ (tm_fs_cons ⟨_, rfl⟩ (tm_fs_cons ⟨_, rfl⟩ (tm_fs_cons ⟨_, rfl⟩ (tm_fs_cons ⟨_, rfl⟩ (tm_fs_cons ⟨_, rfl⟩ (tm_fs_cons ⟨_, rfl, z9 _ _ t_a525 (Nat.le_of_ble_eq_true rfl)⟩ (tm_fs_cons ⟨_, rfl, z9 _ _ t_a526 (Nat.le_of_ble_eq_true rfl)⟩ tm_fs_nil)))))))))))))
              have t551 := u550 _ _ t534 (tm_dif t534 t529 rfl)
              have t552 := u550 _ _ t530 (tm_dif t530 t529 rfl)
              have t553 := u550 _ _ t537 (tm_dif t537 t529 rfl)
              have t554 := u550 _ _ t531 (tm_dif t531 t529 rfl)
              have t555 := u550 _ _ t542 (tm_dif t542 t529 rfl)
              have t556 := u550 _ _ t545 (tm_dif t545 t529 rfl)
              have q557 : tm_at M520 n464 11 0 (.int x1) := ⟨_, m527, rfl⟩
              have q558 : tm_at M520 n464 11 1 (.int x2) := ⟨_, m527, rfl⟩
              have q559 : tm_at M520 n464 11 2 (.int x3) := ⟨_, m527, rfl⟩
              have q560 : tm_at M520 n464 11 3 (.int t) := ⟨_, m527, rfl⟩
              have q561 : tm_at M520 n464 11 4 (.int (t + v475)) := ⟨_, m527, rfl⟩
              have q562 : tm_at M520 n464 11 5 (.int 0) := ⟨_, m527, rfl⟩
              have q563 : tm_at M520 n464 11 6 (.int 0) := ⟨_, m527, rfl⟩
              have q564 : tm_at M520 n464 11 7 (.int 0) := ⟨_, m527, rfl⟩
              have q565 : tm_at M520 n464 11 8 (.int 0) := ⟨_, m527, rfl⟩
              have q566 : tm_at M520 n464 11 9 (.int 0) := ⟨_, m527, rfl⟩
              have q567 : tm_at M520 n464 11 10 (.ref a525) := ⟨_, m527, rfl⟩
              have t568 := u550 _ _ t_a525 (tm_dif t_a525 t529 rfl)
              have q569 : tm_at M520 n464 11 11 (.ref a526) := ⟨_, m527, rfl⟩
              have t570 := u550 _ _ t_a526 (tm_dif t_a526 t529 rfl)
              have z571 : M520 a525 = some (.inl (2, 100, .inl (fun _ => 0))) := z528.2
              have : tm_mx 11 = 40 := rfl
              obtain ⟨m573, e574, N575, f576, h572⟩ := tm_lsn I548 t554 q540
              refine mv_callV (kc' := 0) (ks' := 0) (As := [.ref n464]) (st9 := [.ref n464, .ref Ls]) d_TrustDesk_propose_70 lV_TrustDesk_107 h572.1 rfl (tc_AL_addK (FT := tm_FT) (W := tm_in [5011]) (x := x9) (d := d) tm_okF t554 t_x549 q540 (show _ < (40 : Int) by omega) rfl (C := "TrustDesk$Scheme") (T9 := kF_Scheme) (N9 := 12) rfl (mj_in1 (List.mem_of_getElem? (i := 2108) (by decide +kernel)) rfl) (by decide) (by decide) I548.start) rfl (Nat.le_of_ble_eq_true rfl) (Nat.le_of_ble_eq_true rfl) (Nat.le_of_ble_eq_true rfl) (hst := rfl) (fun b577r M578 n579 b577 => ?_)
              obtain ⟨T580, J581, rfl, q583, K584, K585, g586⟩ := b577
              have I582 := I548.call J581 (tm_sub (by decide)) (Or.inl rfl)
              have t587 := J581.up t554
              have t588 := J581.up t552
              have q589 := J581.keep t552 (by decide) q533
              have t590 := J581.up t551
              have q591 := J581.keepL t551 (by decide) q535
              have q592 := J581.keep t552 (by decide) q536
              have t593 := J581.up t553
              have q594 := J581.keepL t553 (by decide) q538
              have q595 := J581.keep t552 (by decide) q539
              have q596 := J581.keep t552 (by decide) q541
              have t597 := J581.up t555
              have q598 := J581.keepL t555 (by decide) q543
              have q599 := J581.keep t552 (by decide) q544
              have t600 := J581.up t556
              have q601 := J581.keep t552 (by decide) q546
              have K602 : ∀ i b : Nat, tm_ge M0 Ls i b → tm_ge M578 Ls i b := fun i b h => K585 _ _ (K532 i b h)
              have z603 : M578 a525 = some (.inl (2, 100, .inl (fun _ => 0))) := (tm_keepH J581 t568 (by decide)).trans z571
              have q604 := J581.keep t_x549 (by decide) q561
              have q605 := J581.keep t_x549 (by decide) q562
              have q606 := J581.keep t_x549 (by decide) q564
              have q607 := J581.keep t_x549 (by decide) q567
              have b608 : (ks + 1).toInt = ks.toInt + 1 := mz_addn 1 1 (by decide) (by have := mz_lo ks; omega) (by omega)
              refine mv_pop d_TrustDesk_propose_73 rfl ?_
              refine mv_aload_n d_TrustDesk_propose_74 rfl rfl ?_
              refine tr_getK (k := 8) q595 d_TrustDesk_propose_75 f_TrustDesk_59_12 ?_
              obtain ⟨m610, e611, N612, f613, h609⟩ := tm_lsn I582 t587 q583
              refine mv_callV_s (kc' := 0) (ks' := 0) [] [.ref Ls] d_TrustDesk_propose_78 lV_TrustDesk_97 h609.1 rfl (tc_L_size (d := (d + 6)) h609.1) rfl (Nat.le_of_ble_eq_true rfl) (Nat.le_of_ble_eq_true rfl) (Nat.le_of_ble_eq_true rfl) rfl ?_
              refine mv_iconst (v := 1) d_TrustDesk_propose_81 (by decide) ?_
              refine mv_isubv (v := ks) d_TrustDesk_propose_82 (Int32.add_sub_cancel _ _) ?_
              exact mv_iret d_TrustDesk_propose_83 rfl (by first | rfl | decide) ⟨_, I582, _, rfl, (Or.inr ⟨by omega, by omega, _, q583, by omega⟩), K602, (fun _ => ⟨_, _, _, g586, q604, (mz_add2 rfl rfl (by omega) (by omega)).trans (by omega), q605, q606, q607, (Nat.le_trans I496.2.2.2.1 z528.1), z603⟩)⟩
            · refine mv_iconst (v := (-1)) d_TrustDesk_propose_29 (by decide) ?_
              exact mv_iret d_TrustDesk_propose_30 rfl (by first | rfl | decide) ⟨_, I0, _, rfl, (Or.inl ⟨by decide, by omega, yks⟩), G0, (fun h9 => absurd h9 (by omega))⟩
      · refine mv_tableIn (tgt := 78) (off := 77) d_TrustDesk_isSubject_1 (by omega) (by omega) (by rw [b18]; rfl) (by decide) ?_
        refine mv_iload_n d_TrustDesk_isSubject_78 rfl rfl ?_
        have := mz_hi x3
        refine mv_if_ltZ (tgt := 86) (a := x3.toInt) d_TrustDesk_isSubject_79 (by decide) rfl (fun b614 => ?_) (fun b614 => ?_)
        · refine mv_iconst (v := 0) d_TrustDesk_isSubject_86 (by decide) ?_
          refine mv_iret d_TrustDesk_isSubject_87 rfl (by decide) ?_
          refine mv_if_eq_t (tgt := 29) d_TrustDesk_propose_14 (by decide) (by decide) ?_
          refine mv_iconst (v := (-1)) d_TrustDesk_propose_29 (by decide) ?_
          exact mv_iret d_TrustDesk_propose_30 rfl (by first | rfl | decide) ⟨_, I0, _, rfl, (Or.inl ⟨by decide, by omega, yks⟩), G0, (fun h9 => absurd h9 (by omega))⟩
        · refine mv_iconst (v := 1) d_TrustDesk_isSubject_82 (by decide) ?_
          refine mv_goto (tgt := 87) d_TrustDesk_isSubject_83 (by decide) ?_
          refine mv_iret d_TrustDesk_isSubject_87 rfl (by decide) ?_
          refine mv_if_eq_f (tgt := 29) d_TrustDesk_propose_14 (by decide) (by decide) ?_
          refine mv_aload_n d_TrustDesk_propose_17 rfl rfl ?_
          refine tr_getK (k := 8) q_Ls d_TrustDesk_propose_18 f_TrustDesk_59_12 ?_
          obtain ⟨m616, e617, N618, f619, h615⟩ := tm_lsn I0 h_Ls yks
          refine mv_callV_s (kc' := 4) (ks' := 302) [] [.ref Ls] d_TrustDesk_propose_21 lV_TrustDesk_97 h615.1 rfl (tc_L_size (d := (d + 6)) h615.1) rfl (Nat.le_of_ble_eq_true rfl) (Nat.le_of_ble_eq_true rfl) (Nat.le_of_ble_eq_true rfl) rfl ?_
          refine mv_bipush (v := 40) d_TrustDesk_propose_24 (by decide) ?_
          have := mz_hi ks
          refine mv_icmp_ltZ (tgt := 31) (a := ks.toInt) (b := 40) d_TrustDesk_propose_26 (by decide) rfl (by decide) (fun b620 => ?_) (fun b620 => ?_)
          · refine mv_aload_n d_TrustDesk_propose_31 rfl rfl ?_
            refine tr_getK (k := 12) yt d_TrustDesk_propose_32 f_TrustDesk_73_12 ?_
            refine mv_aload_n d_TrustDesk_propose_35 rfl rfl ?_
            refine mv_aload_n d_TrustDesk_propose_36 rfl rfl ?_
            refine tr_getK (k := 12) yt d_TrustDesk_propose_37 f_TrustDesk_73_12 ?_
            obtain ⟨_, b627, -⟩ := I0.1 _ _ h_o0
            refine mv_callV (kc' := 4) (ks' := 302) (As := [.int t]) (st9 := [.int t, .ref o0, .int t]) d_TrustDesk_propose_40 lV_TrustDesk_114 b627 rfl (tc_TrustDesk_inForce_a (d := (d + 3)) (x9 := x9) (o0 := o0) (x1 := t) h_o0 h_La q_La yk yA h_NR q_NR (hT I0) yf I0.start) rfl (Nat.le_of_ble_eq_true rfl) (Nat.le_of_ble_eq_true rfl) (Nat.le_of_ble_eq_true rfl) (hst := rfl) (fun b621r M622 n623 b621 => ?_)
            obtain ⟨T624, J625, a628, rfl, t_a628, f629⟩ := b621
            have I626 := I0.call J625 (tm_sub (by decide)) (Or.inl rfl)
            have t630 := J625.up h_o0
            have K631 : ∀ i b : Nat, tm_ge M0 Ls i b → tm_ge M622 Ls i b := fun i b h => tm_I.keepG I0.1 J625 (I0.up h_Ls) (by decide) (G0 i b h)
            have q632 := J625.keep h_o0 (by decide) q_Lg
            have t633 := J625.up h_Lg
            have q634 := J625.keepL h_Lg (by decide) ykf
            have q635 := J625.keep h_o0 (by decide) q_Ln
            have t636 := J625.up h_Ln
            have q637 := J625.keepL h_Ln (by decide) ykn
            have q638 := J625.keep h_o0 (by decide) q_Ls
            have t639 := J625.up h_Ls
            have q640 := J625.keepL h_Ls (by decide) yks
            have q641 := J625.keep h_o0 (by decide) q_La
            have t642 := J625.up h_La
            have q643 := J625.keepL h_La (by decide) yk
            have q644 := J625.keep h_o0 (by decide) q_NR
            have t645 := J625.up h_NR
            have q646 := J625.keep h_o0 (by decide) yt
            obtain ⟨f647, q648, h649⟩ := f629
            refine mv_iconst (v := 2) d_TrustDesk_propose_43 (by decide) ?_
            have : (2 : Int32).toInt = 2 := by decide
            obtain ⟨_, b656, -⟩ := I626.1 _ _ t_a628
            obtain ⟨v657, R658, q659, e660, q661, h662⟩ := q648
            have t_R658 := tm_rl9 I626.1 t_a628 q661
            refine mv_callV (kc' := 4) (ks' := 302) (As := [.int 2]) (st9 := [.int 2, .ref a628, .int t]) d_TrustDesk_propose_44 lV_TrustDesk_118 b656 rfl (tc_Act_rule_a (d := (d + 6)) (x9 := x9) (o0 := a628) (x1 := 2) t_a628 t_R658 q661 h662 (by omega) I626.start) rfl (Nat.le_of_ble_eq_true rfl) (Nat.le_of_ble_eq_true rfl) (Nat.le_of_ble_eq_true rfl) (hst := rfl) (fun b650r M651 n652 b650 => ?_)
            obtain ⟨T653, J654, v663, rfl, f664⟩ := b650
            have I655 := I626.call J654 (tm_sub (by decide)) (Or.inl rfl)
            have t665 := J654.up t630
            have K666 : ∀ i b : Nat, tm_ge M0 Ls i b → tm_ge M651 Ls i b := fun i b h => tm_I.keepG I626.1 J654 (I626.up h_Ls) (by decide) (K631 i b h)
            have q667 := J654.keep t630 (by decide) q632
            have t668 := J654.up t633
            have q669 := J654.keepL t633 (by decide) q634
            have q670 := J654.keep t630 (by decide) q635
            have t671 := J654.up t636
            have q672 := J654.keepL t636 (by decide) q637
            have q673 := J654.keep t630 (by decide) q638
            have t674 := J654.up t639
            have q675 := J654.keepL t639 (by decide) q640
            have q676 := J654.keep t630 (by decide) q641
            have t677 := J654.up t642
            have q678 := J654.keepL t642 (by decide) q643
            have q679 := J654.keep t630 (by decide) q644
            have t680 := J654.up t645
            have q681 := J654.keep t630 (by decide) q646
            have : v663.toInt = p_told fr va t.toInt A 2 := by have e9 : v663.toInt = p_told fr va t.toInt A ((2 : Int32).toInt).toNat := f664; rw [show ((2 : Int32).toInt).toNat = 2 from by decide] at e9; exact e9
            have := yv t.toInt
            refine mv_iadd d_TrustDesk_propose_47 ?_
            refine mv_istore (lv' := [(4, .int (t + v663)), (0, .ref o0), (1, .int x1), (2, .int x2), (3, .int x3)]) d_TrustDesk_propose_48 (by decide) rfl ?_
            refine mv_aload_n d_TrustDesk_propose_50 rfl rfl ?_
            refine tr_getK (k := 8) q673 d_TrustDesk_propose_51 f_TrustDesk_59_12 ?_
            refine tr_new (kc' := 3) (ks' := 290) tm_okF I655 d_TrustDesk_propose_54 n_TrustDesk_271 (Nat.le_of_ble_eq_true rfl) (Nat.le_of_ble_eq_true rfl) (fun T682 M683 I684 t_x685 m686 h687 u688 K689 => ?_)
            have K690 : ∀ i b : Nat, tm_ge M0 Ls i b → tm_ge M683 Ls i b := fun i b h => tm_ge.mono I655.1 (I655.up h_Ls) (K689 _ _ (I655.up h_Ls)) (fun e te => K689 _ _ te) (K666 i b h)
            have q691 := tm_at.eq (K689 _ _ t665) q667
            have t692 := u688 _ _ t668
            have t693 := u688 _ _ t665
            have q694 := tm_at.eq (K689 _ _ t668) q669
            have q695 := tm_at.eq (K689 _ _ t665) q670
            have t696 := u688 _ _ t671
            have q697 := tm_at.eq (K689 _ _ t671) q672
            have q698 := tm_at.eq (K689 _ _ t665) q673
            have t699 := u688 _ _ t674
            have q700 := tm_at.eq (K689 _ _ t674) q675
            have q701 := tm_at.eq (K689 _ _ t665) q676
            have t702 := u688 _ _ t677
            have q703 := tm_at.eq (K689 _ _ t677) q678
            have q704 := tm_at.eq (K689 _ _ t665) q679
            have t705 := u688 _ _ t680
            have q706 := tm_at.eq (K689 _ _ t665) q681
            refine mv_dup d_TrustDesk_propose_57 rfl ?_
            refine mv_iload_n d_TrustDesk_propose_58 rfl rfl ?_
            refine mv_iload_n d_TrustDesk_propose_59 rfl rfl ?_
            refine mv_iload_n d_TrustDesk_propose_60 rfl rfl ?_
            refine mv_aload_n d_TrustDesk_propose_61 rfl rfl ?_
            refine tr_getK (k := 12) q706 d_TrustDesk_propose_62 f_TrustDesk_73_12 ?_
            refine mv_iload d_TrustDesk_propose_65 rfl ?_
            refine mv_callI (kc' := 1) (ks' := 90) (As := [.int x1, .int x2, .int x3, .int t, .int (t + v663)]) (st9 := [.int (t + v663), .int t, .int x3, .int x2, .int x1, .ref n652, .ref n652, .ref Ls]) d_TrustDesk_propose_67 lI_TrustDesk_273 (tc_Scheme_init_h (d := (d + 5)) (o0 := n652) (x1 := x1) (x2 := x2) (x3 := x3) (x4 := t) (x5 := (t + v663)) t_x685 m686 I684.start) rfl (Nat.le_of_ble_eq_true rfl) (Nat.le_of_ble_eq_true rfl) (Nat.le_of_ble_eq_true rfl) (hst := rfl) (fun b707r M708 n709 b707 => ?_)
            obtain ⟨T710, J711, rfl, a713, a714, m715, t_a713, t_a714, z716⟩ := b707
            have I712 := I684.call J711 (tm_sub (by decide)) (Or.inr h687)
            have t717 := J711.up t_x685
            have t718 := J711.up t693
            have t719 := J711.up t699
            have K720 : ∀ i b : Nat, tm_ge M0 Ls i b → tm_ge M708 Ls i b := fun i b h => tm_I.keepG I684.1 J711 (I684.up h_Ls) (by decide) (K690 i b h)
            have q721 := J711.keep t693 (by decide) q691
            have t722 := J711.up t692
            have q723 := J711.keepL t692 (by decide) q694
            have q724 := J711.keep t693 (by decide) q695
            have t725 := J711.up t696
            have q726 := J711.keepL t696 (by decide) q697
            have q727 := J711.keep t693 (by decide) q698
            have q728 := J711.keepL t699 (by decide) q700
            have q729 := J711.keep t693 (by decide) q701
            have t730 := J711.up t702
            have q731 := J711.keepL t702 (by decide) q703
            have q732 := J711.keep t693 (by decide) q704
            have t733 := J711.up t705
            have q734 := J711.keep t693 (by decide) q706
            obtain ⟨T735, I736, t_x737, u738⟩ := I712.sealO tm_okF t717 h687 m715 (fun _ z9 => (tm_fs_cons ⟨_, rfl⟩ (tm_fs_cons ⟨_, rfl⟩ (tm_fs_cons ⟨_, rfl⟩ (tm_fs_cons ⟨_, rfl⟩ (tm_fs_cons ⟨_, rfl⟩ (tm_fs_cons ⟨_, rfl⟩ (tm_fs_cons ⟨_, rfl⟩ (tm_fs_cons ⟨_, rfl⟩ (tm_fs_cons ⟨_, rfl⟩ (tm_fs_cons ⟨_, rfl⟩ (tm_fs_cons ⟨_, rfl, z9 _ _ t_a713 (Nat.le_of_ble_eq_true rfl)⟩ (tm_fs_cons ⟨_, rfl, z9 _ _ t_a714 (Nat.le_of_ble_eq_true rfl)⟩ tm_fs_nil)))))))))))))
            have t739 := u738 _ _ t722 (tm_dif t722 t717 rfl)
            have t740 := u738 _ _ t718 (tm_dif t718 t717 rfl)
            have t741 := u738 _ _ t725 (tm_dif t725 t717 rfl)
            have t742 := u738 _ _ t719 (tm_dif t719 t717 rfl)
            have t743 := u738 _ _ t730 (tm_dif t730 t717 rfl)
            have t744 := u738 _ _ t733 (tm_dif t733 t717 rfl)
            have q745 : tm_at M708 n652 11 0 (.int x1) := ⟨_, m715, rfl⟩
            have q746 : tm_at M708 n652 11 1 (.int x2) := ⟨_, m715, rfl⟩
            have q747 : tm_at M708 n652 11 2 (.int x3) := ⟨_, m715, rfl⟩
            have q748 : tm_at M708 n652 11 3 (.int t) := ⟨_, m715, rfl⟩
            have q749 : tm_at M708 n652 11 4 (.int (t + v663)) := ⟨_, m715, rfl⟩
            have q750 : tm_at M708 n652 11 5 (.int 0) := ⟨_, m715, rfl⟩
            have q751 : tm_at M708 n652 11 6 (.int 0) := ⟨_, m715, rfl⟩
            have q752 : tm_at M708 n652 11 7 (.int 0) := ⟨_, m715, rfl⟩
            have q753 : tm_at M708 n652 11 8 (.int 0) := ⟨_, m715, rfl⟩
            have q754 : tm_at M708 n652 11 9 (.int 0) := ⟨_, m715, rfl⟩
            have q755 : tm_at M708 n652 11 10 (.ref a713) := ⟨_, m715, rfl⟩
            have t756 := u738 _ _ t_a713 (tm_dif t_a713 t717 rfl)
            have q757 : tm_at M708 n652 11 11 (.ref a714) := ⟨_, m715, rfl⟩
            have t758 := u738 _ _ t_a714 (tm_dif t_a714 t717 rfl)
            have z759 : M708 a713 = some (.inl (2, 100, .inl (fun _ => 0))) := z716.2
            have : tm_mx 11 = 40 := rfl
            obtain ⟨m761, e762, N763, f764, h760⟩ := tm_lsn I736 t742 q728
            refine mv_callV (kc' := 0) (ks' := 0) (As := [.ref n652]) (st9 := [.ref n652, .ref Ls]) d_TrustDesk_propose_70 lV_TrustDesk_107 h760.1 rfl (tc_AL_addK (FT := tm_FT) (W := tm_in [5011]) (x := x9) (d := d) tm_okF t742 t_x737 q728 (show _ < (40 : Int) by omega) rfl (C := "TrustDesk$Scheme") (T9 := kF_Scheme) (N9 := 12) rfl (mj_in1 (List.mem_of_getElem? (i := 2108) (by decide +kernel)) rfl) (by decide) (by decide) I736.start) rfl (Nat.le_of_ble_eq_true rfl) (Nat.le_of_ble_eq_true rfl) (Nat.le_of_ble_eq_true rfl) (hst := rfl) (fun b765r M766 n767 b765 => ?_)
            obtain ⟨T768, J769, rfl, q771, K772, K773, g774⟩ := b765
            have I770 := I736.call J769 (tm_sub (by decide)) (Or.inl rfl)
            have t775 := J769.up t742
            have t776 := J769.up t740
            have q777 := J769.keep t740 (by decide) q721
            have t778 := J769.up t739
            have q779 := J769.keepL t739 (by decide) q723
            have q780 := J769.keep t740 (by decide) q724
            have t781 := J769.up t741
            have q782 := J769.keepL t741 (by decide) q726
            have q783 := J769.keep t740 (by decide) q727
            have q784 := J769.keep t740 (by decide) q729
            have t785 := J769.up t743
            have q786 := J769.keepL t743 (by decide) q731
            have q787 := J769.keep t740 (by decide) q732
            have t788 := J769.up t744
            have q789 := J769.keep t740 (by decide) q734
            have K790 : ∀ i b : Nat, tm_ge M0 Ls i b → tm_ge M766 Ls i b := fun i b h => K773 _ _ (K720 i b h)
            have z791 : M766 a713 = some (.inl (2, 100, .inl (fun _ => 0))) := (tm_keepH J769 t756 (by decide)).trans z759
            have q792 := J769.keep t_x737 (by decide) q749
            have q793 := J769.keep t_x737 (by decide) q750
            have q794 := J769.keep t_x737 (by decide) q752
            have q795 := J769.keep t_x737 (by decide) q755
            have b796 : (ks + 1).toInt = ks.toInt + 1 := mz_addn 1 1 (by decide) (by have := mz_lo ks; omega) (by omega)
            refine mv_pop d_TrustDesk_propose_73 rfl ?_
            refine mv_aload_n d_TrustDesk_propose_74 rfl rfl ?_
            refine tr_getK (k := 8) q783 d_TrustDesk_propose_75 f_TrustDesk_59_12 ?_
            obtain ⟨m798, e799, N800, f801, h797⟩ := tm_lsn I770 t775 q771
            refine mv_callV_s (kc' := 0) (ks' := 0) [] [.ref Ls] d_TrustDesk_propose_78 lV_TrustDesk_97 h797.1 rfl (tc_L_size (d := (d + 6)) h797.1) rfl (Nat.le_of_ble_eq_true rfl) (Nat.le_of_ble_eq_true rfl) (Nat.le_of_ble_eq_true rfl) rfl ?_
            refine mv_iconst (v := 1) d_TrustDesk_propose_81 (by decide) ?_
            refine mv_isubv (v := ks) d_TrustDesk_propose_82 (Int32.add_sub_cancel _ _) ?_
            exact mv_iret d_TrustDesk_propose_83 rfl (by first | rfl | decide) ⟨_, I770, _, rfl, (Or.inr ⟨by omega, by omega, _, q771, by omega⟩), K790, (fun _ => ⟨_, _, _, g774, q792, (mz_add2 rfl rfl (by omega) (by omega)).trans (by omega), q793, q794, q795, (Nat.le_trans I684.2.2.2.1 z716.1), z791⟩)⟩
          · refine mv_iconst (v := (-1)) d_TrustDesk_propose_29 (by decide) ?_
            exact mv_iret d_TrustDesk_propose_30 rfl (by first | rfl | decide) ⟨_, I0, _, rfl, (Or.inl ⟨by decide, by omega, yks⟩), G0, (fun h9 => absurd h9 (by omega))⟩
