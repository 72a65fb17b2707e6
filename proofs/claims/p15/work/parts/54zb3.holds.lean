def w_TrustDesk_inForce_a : List Nat := []
set_option maxHeartbeats 100000000 in theorem tc_TrustDesk_inForce_a {g : mj_G} {l : Launch} {d : Nat} {T0 : tm_H} {M0 : mj_M} {n0 x9 : Nat} {o0 : Nat} {x1 : Int32} (h_o0 : T0 o0 = some (0, 12, 0))  {La NR : Nat} {k : Int32} {A : Nat} {fr : Nat → Int} {va : Nat → Nat → Int} (h_La : T0 La = some (3, 1, o0)) (q_La : tm_at M0 o0 12 5 (.ref La)) (yk : tm_at M0 La 0 2 (.int k)) (yA : k.toInt = (A : Int)) (h_NR : T0 NR = some (0, 1, 0)) (q_NR : tm_at M0 o0 12 4 (.ref NR)) (yT : qT M0 La NR A fr va) (yf : ∀ i : Nat, i < A → 0 ≤ fr i) (I0 : tm_I tm_FT (tm_in w_TrustDesk_inForce_a) x9 T0 M0 n0 T0 M0 n0) : mj_Met g l kY_TrustDesk_inForce (d + 3) [.ref o0, .int x1] M0 n0 0 0 (tm_Q tm_FT (tm_in w_TrustDesk_inForce_a) x9 T0 M0 n0 (fun r T M => ∃ b, r = some (.ref b) ∧ T b = some (0, 1, 0) ∧ (qF M b fr va x1.toInt A))) := by
  refine mj_enter (by decide) (Nat.le_of_ble_eq_true rfl) ?_
  have hT : ∀ {T : tm_H} {M : mj_M} {n : Nat}, tm_I tm_FT (tm_in w_TrustDesk_inForce_a) x9 T0 M0 n0 T M n → qT M La NR A fr va := fun I => yT.keep I0.1 I h_NR h_La (by decide +kernel) (by decide +kernel) (by decide +kernel) (by decide +kernel)
  refine mv_aload_n d_TrustDesk_inForce_0 rfl rfl ?_
  refine tr_getK (k := 4) q_NR d_TrustDesk_inForce_1 f_TrustDesk_42_12 ?_
  refine mv_astore_n (lv' := [(2, .ref NR), (0, .ref o0), (1, .int x1)]) d_TrustDesk_inForce_4 rfl (by decide) rfl ?_
  refine mv_iconst (v := 0) d_TrustDesk_inForce_5 (by decide) ?_
  refine mv_istore_n (lv' := [(3, .int 0), (2, .ref NR), (0, .ref o0), (1, .int x1)]) d_TrustDesk_inForce_6 rfl (by decide) rfl ?_
  have L7_1 : ∀ (k : Nat) (i3_1 : Int32) (r2_1 : Nat) (T_1 : tm_H) (M_1 : mj_M) (n_1 : Nat), tm_I tm_FT (tm_in w_TrustDesk_inForce_a) x9 T0 M0 n0 T_1 M_1 n_1 → T_1 r2_1 = some (0, 1, 0) → T_1 o0 = some (0, 12, 0) → 0 ≤ i3_1.toInt → i3_1.toInt ≤ (A : Int) → qF M_1 r2_1 fr va x1.toInt (i3_1.toInt).toNat → 2147483647 - i3_1.toInt < (k : Int) → mj_V g l kY_TrustDesk_inForce (d + 3) 7 [(3, .int i3_1), (2, .ref r2_1), (0, .ref o0), (1, .int x1)] [] M_1 n_1 0 0 (tm_Q tm_FT (tm_in w_TrustDesk_inForce_a) x9 T0 M0 n0 (fun r T M => ∃ b, r = some (.ref b) ∧ T b = some (0, 1, 0) ∧ (qF M b fr va x1.toInt A))) := by
    intro k1
    induction k1 with
    | zero =>
      intro i3_1 r2_1 T_1 M_1 n_1 I_1 h_r2_1 h_q0_1 iv0_1 iv1_1 iv2_1 hk1
      have := mz_hi i3_1
      omega
    | succ k1 ih1 =>
      intro i3_1 r2_1 T_1 M_1 n_1 I_1 h_r2_1 h_q0_1 iv0_1 iv1_1 iv2_1 hk1
      have t_x2 := I_1.up h_La
      have q3 := I_1.keep h_o0 (by decide) q_La
      have q4 := I_1.keepL h_La (by decide) yk
      refine mv_iload_n d_TrustDesk_inForce_7 rfl rfl ?_
      refine mv_aload_n d_TrustDesk_inForce_8 rfl rfl ?_
      refine tr_getK (k := 5) q3 d_TrustDesk_inForce_9 f_TrustDesk_49_12 ?_
      obtain ⟨m6, e7, N8, f9, h5⟩ := tm_lsn I_1 t_x2 q4
      refine mv_callV_s (kc' := 0) (ks' := 0) [] [.ref La, .int i3_1] d_TrustDesk_inForce_12 lV_TrustDesk_97 h5.1 rfl (tc_L_size (d := (d + 2)) h5.1) rfl (Nat.le_of_ble_eq_true rfl) (Nat.le_of_ble_eq_true rfl) (Nat.le_of_ble_eq_true rfl) rfl ?_
      have := mz_hi i3_1
      have := mz_hi k
      refine mv_icmp_geZ (tgt := 61) (a := i3_1.toInt) (b := k.toInt) d_TrustDesk_inForce_15 (by decide) rfl rfl (fun b10 => ?_) (fun b10 => ?_)
      · refine mv_aload_n d_TrustDesk_inForce_61 rfl rfl ?_
        exact mv_aret (r := some r2_1) d_TrustDesk_inForce_62 rfl (by first | exact Or.inl ⟨_, rfl⟩ | exact Or.inr ⟨_, rfl⟩) ⟨_, I_1, ⟨_, rfl, h_r2_1, (by have e9 := iv2_1; rw [show (i3_1.toInt).toNat = A from by omega] at e9; exact e9)⟩⟩
      · refine mv_aload_n d_TrustDesk_inForce_18 rfl rfl ?_
        refine tr_getK (k := 5) q3 d_TrustDesk_inForce_19 f_TrustDesk_49_12 ?_
        refine mv_iload_n d_TrustDesk_inForce_22 rfl rfl ?_
        obtain ⟨m12, e13, N14, f15, h11⟩ := tm_lsn I_1 t_x2 q4
        obtain ⟨a17, g18, q19⟩ := (hT I_1).2 (i3_1.toInt).toNat (by omega)
        obtain ⟨-, f21, t_a17⟩ := tm_ge.el h11 g18
        have h20 : i3_1.toNatClampNeg = (i3_1.toInt).toNat := by have := mz_nat9 (i := i3_1) (by omega); omega
        rw [← h20] at f21
        obtain ⟨u16e, u16i, -⟩ := tm_el (i := i3_1) h11 (by omega) (by omega)
        refine mv_callV_s (kc' := 0) (ks' := 0) [.int i3_1] [.int i3_1, .ref La] d_TrustDesk_inForce_23 lV_TrustDesk_158 h11.1 rfl (tc_L_get (d := d) h11.1 u16e (by omega) (by omega) u16i f21) rfl (Nat.le_of_ble_eq_true rfl) (Nat.le_of_ble_eq_true rfl) (Nat.le_of_ble_eq_true rfl) rfl ?_
        obtain ⟨_, b22, -⟩ := I_1.1 _ _ t_a17
        refine mv_castS (T9 := kF_Act) (N := 5) d_TrustDesk_inForce_26 (mj_in1 (List.mem_of_getElem? (i := 205) (by decide +kernel)) rfl) b22 rfl ?_
        refine mv_astore (lv' := [(4, .ref a17), (3, .int i3_1), (2, .ref r2_1), (0, .ref o0), (1, .int x1)]) d_TrustDesk_inForce_29 (by decide) rfl ?_
        refine mv_aload d_TrustDesk_inForce_31 rfl ?_
        obtain ⟨v24, q23⟩ := tm_atI I_1 t_a17 (k := 0) rfl
        refine tr_getK q23 d_TrustDesk_inForce_33 f_TrustDesk_524_1 ?_
        refine mv_iload_n d_TrustDesk_inForce_36 rfl rfl ?_
        have := mz_hi v24
        have := mz_hi x1
        refine mv_icmp_gtZ (tgt := 55) (a := v24.toInt) (b := x1.toInt) d_TrustDesk_inForce_37 (by decide) rfl rfl (fun b25 => ?_) (fun b25 => ?_)
        · refine mv_iinc (v := (i3_1 + 1)) (lv' := [(3, .int (i3_1 + 1)), (4, .ref a17), (2, .ref r2_1), (0, .ref o0), (1, .int x1)]) d_TrustDesk_inForce_55 rfl rfl (by decide) rfl ?_
          refine mv_goto (tgt := 7) d_TrustDesk_inForce_58 (by decide) ?_
          have : (i3_1 + 1 : Int32).toInt = i3_1.toInt + 1 := mz_addn 1 1 (by decide) (by omega) (by omega)
          refine mv_locals (lv' := [(3, .int (i3_1 + 1)), (2, .ref r2_1), (0, .ref o0), (1, .int x1)]) (by intro q hq; simp only [List.mem_cons, List.not_mem_nil, or_false] at hq; rcases hq with rfl | rfl | rfl | rfl <;> rfl) ?_
          have b26 : (i3_1 + 1).toInt = i3_1.toInt + 1 := mz_addn 1 1 (by decide) (by have := mz_lo i3_1; omega) (by have := mz_hi i3_1; omega)
          exact (ih1 (i3_1 + 1) r2_1 T_1 M_1 n_1 I_1 h_r2_1 h_q0_1 (by first | omega | decide) (by first | omega | decide) (by rw [show ((i3_1 + 1).toInt).toNat = (i3_1.toInt).toNat + 1 from by omega]; exact qF.no iv2_1 q19 q23 (Or.inl (by omega)) (yf _ (by omega))) (by omega))
        · refine mv_aload d_TrustDesk_inForce_40 rfl ?_
          refine tr_getK (k := 0) q23 d_TrustDesk_inForce_42 f_TrustDesk_524_1 ?_
          refine mv_aload_n d_TrustDesk_inForce_45 rfl rfl ?_
          obtain ⟨v28, q27⟩ := tm_atI I_1 h_r2_1 (k := 0) rfl
          refine tr_getK q27 d_TrustDesk_inForce_46 f_TrustDesk_524_1 ?_
          have := mz_hi v24
          have := mz_hi v28
          refine mv_icmp_ltZ (tgt := 55) (a := v24.toInt) (b := v28.toInt) d_TrustDesk_inForce_49 (by decide) rfl rfl (fun b29 => ?_) (fun b29 => ?_)
          · refine mv_iinc (v := (i3_1 + 1)) (lv' := [(3, .int (i3_1 + 1)), (4, .ref a17), (2, .ref r2_1), (0, .ref o0), (1, .int x1)]) d_TrustDesk_inForce_55 rfl rfl (by decide) rfl ?_
            refine mv_goto (tgt := 7) d_TrustDesk_inForce_58 (by decide) ?_
            have : (i3_1 + 1 : Int32).toInt = i3_1.toInt + 1 := mz_addn 1 1 (by decide) (by omega) (by omega)
            refine mv_locals (lv' := [(3, .int (i3_1 + 1)), (2, .ref r2_1), (0, .ref o0), (1, .int x1)]) (by intro q hq; simp only [List.mem_cons, List.not_mem_nil, or_false] at hq; rcases hq with rfl | rfl | rfl | rfl <;> rfl) ?_
            have b30 : (i3_1 + 1).toInt = i3_1.toInt + 1 := mz_addn 1 1 (by decide) (by have := mz_lo i3_1; omega) (by have := mz_hi i3_1; omega)
            exact (ih1 (i3_1 + 1) r2_1 T_1 M_1 n_1 I_1 h_r2_1 h_q0_1 (by first | omega | decide) (by first | omega | decide) (by rw [show ((i3_1 + 1).toInt).toNat = (i3_1.toInt).toNat + 1 from by omega]; exact qF.no iv2_1 q19 q23 (Or.inr ⟨_, q27, by omega⟩) (yf _ (by omega))) (by omega))
          · refine mv_aload d_TrustDesk_inForce_52 rfl ?_
            refine mv_astore_n (lv' := [(2, .ref a17), (4, .ref a17), (3, .int i3_1), (0, .ref o0), (1, .int x1)]) d_TrustDesk_inForce_54 rfl (by decide) rfl ?_
            refine mv_iinc (v := (i3_1 + 1)) (lv' := [(3, .int (i3_1 + 1)), (2, .ref a17), (4, .ref a17), (0, .ref o0), (1, .int x1)]) d_TrustDesk_inForce_55 rfl rfl (by decide) rfl ?_
            refine mv_goto (tgt := 7) d_TrustDesk_inForce_58 (by decide) ?_
            have : (i3_1 + 1 : Int32).toInt = i3_1.toInt + 1 := mz_addn 1 1 (by decide) (by omega) (by omega)
            refine mv_locals (lv' := [(3, .int (i3_1 + 1)), (2, .ref a17), (0, .ref o0), (1, .int x1)]) (by intro q hq; simp only [List.mem_cons, List.not_mem_nil, or_false] at hq; rcases hq with rfl | rfl | rfl | rfl <;> rfl) ?_
            have b31 : (i3_1 + 1).toInt = i3_1.toInt + 1 := mz_addn 1 1 (by decide) (by have := mz_lo i3_1; omega) (by have := mz_hi i3_1; omega)
            exact (ih1 (i3_1 + 1) a17 T_1 M_1 n_1 I_1 t_a17 h_q0_1 (by first | omega | decide) (by first | omega | decide) (by rw [show ((i3_1 + 1).toInt).toNat = (i3_1.toInt).toNat + 1 from by omega]; exact qF.yes iv2_1 q19 q23 q27 (by omega) (by omega) (yf _ (by omega))) (by omega))
  have : (0 : Int32).toInt = 0 := by decide
  exact mv_less (Nat.zero_le _) (Nat.zero_le _) (L7_1 4294967296 0 NR T0 M0 n0 I0 h_NR h_o0 (by first | omega | decide) (by first | omega | decide) (by rw [show ((0 : Int32).toInt).toNat = 0 from by decide]; exact qF.zero (hT I0).1) (by show (2147483647 - (0 : Int) : Int) < _; decide))
def w_Act_rule_a : List Nat := []
set_option maxHeartbeats 100000000 in theorem tc_Act_rule_a {g : mj_G} {l : Launch} {d : Nat} {T0 : tm_H} {M0 : mj_M} {n0 x9 : Nat} {o0 : Nat} {x1 : Int32} (h_o0 : T0 o0 = some (0, 1, 0)) {R1 : Nat} {VV : Nat → Int} (t_R1 : T0 R1 = some (1, 1224, 6)) (yr : tm_at M0 o0 1 3 (.ref R1)) (yV : ∀ j : Nat, j < 6 → ra M0 o0 3 j = VV j) (yx : 0 ≤ x1.toInt ∧ x1.toInt ≤ 5) (I0 : tm_I tm_FT (tm_in w_Act_rule_a) x9 T0 M0 n0 T0 M0 n0) : mj_Met g l kY_Act_rule d [.ref o0, .int x1] M0 n0 0 0 (tm_Q tm_FT (tm_in w_Act_rule_a) x9 T0 M0 n0 (fun r _ M => ∃ v : Int32, r = some (.int v) ∧ (v.toInt = VV x1.toInt.toNat))) := by
  refine mj_enter (by decide) (Nat.le_of_ble_eq_true rfl) ?_
  refine mv_iload_n d_Act_rule_0 rfl rfl ?_
  have := mz_hi x1
  refine mv_if_ltZ (tgt := 22) (a := x1.toInt) d_Act_rule_1 (by decide) rfl (fun b1 => ?_) (fun b1 => ?_)
  · refine mv_iconst (v := (-1)) d_Act_rule_22 (by decide) ?_
    exact mv_iret d_Act_rule_23 rfl (by first | rfl | decide) ⟨_, I0, _, rfl, (by exfalso; omega)⟩
  · refine mv_iload_n d_Act_rule_4 rfl rfl ?_
    refine mv_aload_n d_Act_rule_5 rfl rfl ?_
    refine tr_getK (k := 3) yr d_Act_rule_6 f_Act_27_1 ?_
    refine tr_alen (v := 6) I0 t_R1 (by decide) (by decide) d_Act_rule_9 ?_
    have := mz_hi x1
    refine mv_icmp_geZ (tgt := 22) (a := x1.toInt) (b := 6) d_Act_rule_10 (by decide) rfl (by decide) (fun b2 => ?_) (fun b2 => ?_)
    · refine mv_iconst (v := (-1)) d_Act_rule_22 (by decide) ?_
      exact mv_iret d_Act_rule_23 rfl (by first | rfl | decide) ⟨_, I0, _, rfl, (by exfalso; omega)⟩
    · refine mv_aload_n d_Act_rule_13 rfl rfl ?_
      refine tr_getK (k := 3) yr d_Act_rule_14 f_Act_27_1 ?_
      refine mv_iload_n d_Act_rule_17 rfl rfl ?_
      refine tr_ialdC (o := o0) (c := 1) (k := 3) I0 yr t_R1 (by decide) d_Act_rule_18 (vp_in_iff.mpr (by omega)) (fun v3 e4 => ?_)
      have : v3.toInt = VV x1.toInt.toNat := by rw [e4, show x1.toNatClampNeg = x1.toInt.toNat from by have := mz_nat9 (i := x1) (by omega); omega]; exact yV _ (by omega)
      refine mv_goto (tgt := 23) d_Act_rule_19 (by decide) ?_
      exact mv_iret d_Act_rule_23 rfl (by first | rfl | decide) ⟨_, I0, _, rfl, (by omega)⟩
def w_TrustDesk_holds_a : List Nat := []
set_option maxHeartbeats 100000000 in theorem tc_TrustDesk_holds_a {g : mj_G} {l : Launch} {d : Nat} {T0 : tm_H} {M0 : mj_M} {n0 x9 : Nat} {o0 : Nat} {x1 : Int32} {x2 : Int32} (h_o0 : T0 o0 = some (0, 12, 0))  {La NR : Nat} {k : Int32} {A : Nat} {fr : Nat → Int} {va : Nat → Nat → Int} (h_La : T0 La = some (3, 1, o0)) (q_La : tm_at M0 o0 12 5 (.ref La)) (yk : tm_at M0 La 0 2 (.int k)) (yA : k.toInt = (A : Int)) (h_NR : T0 NR = some (0, 1, 0)) (q_NR : tm_at M0 o0 12 4 (.ref NR)) (yT : qT M0 La NR A fr va) (yf : ∀ i : Nat, i < A → 0 ≤ fr i) (I0 : tm_I tm_FT (tm_in w_TrustDesk_holds_a) x9 T0 M0 n0 T0 M0 n0) : mj_Met g l kY_TrustDesk_holds (d + 4) [.ref o0, .int x1, .int x2] M0 n0 0 0 (tm_Q tm_FT (tm_in w_TrustDesk_holds_a) x9 T0 M0 n0 (fun r _ M => ∃ v : Int32, r = some (.int v) ∧ ((v.toInt = -1 ∧ ¬ (0 ≤ x1.toInt ∧ x1.toInt ≤ 36000 ∧ 0 ≤ x2.toInt ∧ x2.toInt ≤ 5)) ∨ ((0 ≤ x1.toInt ∧ x1.toInt ≤ 36000 ∧ 0 ≤ x2.toInt ∧ x2.toInt ≤ 5) ∧ v.toInt = p_told fr va x1.toInt A x2.toInt.toNat)))) := by
  refine mj_enter (by decide) (Nat.le_of_ble_eq_true rfl) ?_
  have hT : ∀ {T : tm_H} {M : mj_M} {n : Nat}, tm_I tm_FT (tm_in w_TrustDesk_holds_a) x9 T0 M0 n0 T M n → qT M La NR A fr va := fun I => yT.keep I0.1 I h_NR h_La (by decide +kernel) (by decide +kernel) (by decide +kernel) (by decide +kernel)
  refine mv_iload_n d_TrustDesk_holds_0 rfl rfl ?_
  refine mv_callS (kc1 := 0) (ks1 := 0) (kc' := 0) (ks' := 0) (As := [.int x1]) (st9 := [.int x1]) d_TrustDesk_holds_1 lS_TrustDesk_94 (mj_enter (by decide) (Nat.le_of_ble_eq_true rfl) ?_) rfl (Nat.le_of_ble_eq_true rfl) (Nat.le_of_ble_eq_true rfl) (Nat.le_of_ble_eq_true rfl) (hst := rfl) (fun _ _ _ h => h)
  refine mv_iload_n d_TrustDesk_isDay_0 rfl rfl ?_
  have := mz_hi x1
  refine mv_if_ltZ (tgt := 14) (a := x1.toInt) d_TrustDesk_isDay_1 (by decide) rfl (fun b1 => ?_) (fun b1 => ?_)
  · refine mv_iconst (v := 0) d_TrustDesk_isDay_14 (by decide) ?_
    refine mv_iret d_TrustDesk_isDay_15 rfl (by decide) ?_
    refine mv_if_eq_t (tgt := 16) d_TrustDesk_holds_4 (by decide) (by decide) ?_
    refine mv_iconst (v := (-1)) d_TrustDesk_holds_16 (by decide) ?_
    exact mv_iret d_TrustDesk_holds_17 rfl (by first | rfl | decide) ⟨_, I0, _, rfl, Or.inl ⟨by decide, by omega⟩⟩
  · refine mv_iload_n d_TrustDesk_isDay_4 rfl rfl ?_
    refine mv_ldc d_TrustDesk_isDay_5 k_TrustDesk_147 ?_
    have := mz_hi x1
    refine mv_icmp_gtZ (tgt := 14) (a := x1.toInt) (b := 36000) d_TrustDesk_isDay_7 (by decide) rfl (by decide) (fun b2 => ?_) (fun b2 => ?_)
    · refine mv_iconst (v := 0) d_TrustDesk_isDay_14 (by decide) ?_
      refine mv_iret d_TrustDesk_isDay_15 rfl (by decide) ?_
      refine mv_if_eq_t (tgt := 16) d_TrustDesk_holds_4 (by decide) (by decide) ?_
      refine mv_iconst (v := (-1)) d_TrustDesk_holds_16 (by decide) ?_
      exact mv_iret d_TrustDesk_holds_17 rfl (by first | rfl | decide) ⟨_, I0, _, rfl, Or.inl ⟨by decide, by omega⟩⟩
    · refine mv_iconst (v := 1) d_TrustDesk_isDay_10 (by decide) ?_
      refine mv_goto (tgt := 15) d_TrustDesk_isDay_11 (by decide) ?_
      refine mv_iret d_TrustDesk_isDay_15 rfl (by decide) ?_
      refine mv_if_eq_f (tgt := 16) d_TrustDesk_holds_4 (by decide) (by decide) ?_
      refine mv_iload_n d_TrustDesk_holds_7 rfl rfl ?_
      have := mz_hi x2
      refine mv_if_ltZ (tgt := 16) (a := x2.toInt) d_TrustDesk_holds_8 (by decide) rfl (fun b3 => ?_) (fun b3 => ?_)
      · refine mv_iconst (v := (-1)) d_TrustDesk_holds_16 (by decide) ?_
        exact mv_iret d_TrustDesk_holds_17 rfl (by first | rfl | decide) ⟨_, I0, _, rfl, Or.inl ⟨by decide, by omega⟩⟩
      · refine mv_iload_n d_TrustDesk_holds_11 rfl rfl ?_
        refine mv_iconst (v := 5) d_TrustDesk_holds_12 (by decide) ?_
        have := mz_hi x2
        refine mv_icmp_leZ (tgt := 18) (a := x2.toInt) (b := 5) d_TrustDesk_holds_13 (by decide) rfl (by decide) (fun b4 => ?_) (fun b4 => ?_)
        · refine mv_aload_n d_TrustDesk_holds_18 rfl rfl ?_
          refine mv_iload_n d_TrustDesk_holds_19 rfl rfl ?_
          obtain ⟨_, b11, -⟩ := I0.1 _ _ h_o0
          refine mv_callV (kc' := 0) (ks' := 0) (As := [.int x1]) (st9 := [.int x1, .ref o0]) d_TrustDesk_holds_20 lV_TrustDesk_114 b11 rfl (tc_TrustDesk_inForce_a (d := d) (x9 := x9) (o0 := o0) (x1 := x1) h_o0 h_La q_La yk yA h_NR q_NR (hT I0) yf I0.start) rfl (Nat.le_of_ble_eq_true rfl) (Nat.le_of_ble_eq_true rfl) (Nat.le_of_ble_eq_true rfl) (hst := rfl) (fun b5r M6 n7 b5 => ?_)
          obtain ⟨T8, J9, a12, rfl, t_a12, f13⟩ := b5
          have I10 := I0.call J9 (tm_sub (by decide)) (Or.inl rfl)
          have t14 := J9.up h_o0
          have q15 := J9.keep h_o0 (by decide) q_La
          have t16 := J9.up h_La
          have q17 := J9.keepL h_La (by decide) yk
          have q18 := J9.keep h_o0 (by decide) q_NR
          have t19 := J9.up h_NR
          obtain ⟨f20, q21, h22⟩ := f13
          refine mv_iload_n d_TrustDesk_holds_23 rfl rfl ?_
          obtain ⟨_, b29, -⟩ := I10.1 _ _ t_a12
          obtain ⟨v30, R31, q32, e33, q34, h35⟩ := q21
          have t_R31 := tm_rl9 I10.1 t_a12 q34
          refine mv_callV (kc' := 0) (ks' := 0) (As := [.int x2]) (st9 := [.int x2, .ref a12]) d_TrustDesk_holds_24 lV_TrustDesk_118 b29 rfl (tc_Act_rule_a (d := (d + 3)) (x9 := x9) (o0 := a12) (x1 := x2) t_a12 t_R31 q34 h35 (by omega) I10.start) rfl (Nat.le_of_ble_eq_true rfl) (Nat.le_of_ble_eq_true rfl) (Nat.le_of_ble_eq_true rfl) (hst := rfl) (fun b23r M24 n25 b23 => ?_)
          obtain ⟨T26, J27, v36, rfl, f37⟩ := b23
          have I28 := I10.call J27 (tm_sub (by decide)) (Or.inl rfl)
          have t38 := J27.up t14
          have q39 := J27.keep t14 (by decide) q15
          have t40 := J27.up t16
          have q41 := J27.keepL t16 (by decide) q17
          have q42 := J27.keep t14 (by decide) q18
          have t43 := J27.up t19
          exact mv_iret d_TrustDesk_holds_27 rfl (by first | rfl | decide) ⟨_, I28, _, rfl, Or.inr ⟨by omega, f37⟩⟩
        · refine mv_iconst (v := (-1)) d_TrustDesk_holds_16 (by decide) ?_
          exact mv_iret d_TrustDesk_holds_17 rfl (by first | rfl | decide) ⟨_, I0, _, rfl, Or.inl ⟨by decide, by omega⟩⟩
