def w_TrustDesk_fact_x : List Nat := [504, 550, 551, 552, 553]
theorem tc_TrustDesk_fact_x {g : mj_G} {l : Launch} {d : Nat} {T0 : tm_H} {M0 : mj_M} {n0 x9 : Nat} {o0 : Nat} {x1 : Int32} {x2 : Int32} {x3 : Int32} (h_o0 : T0 o0 = some (0, 12, 0)) {F : Nat} {c : Int32} (h_F : T0 F = some (0, 5, 0)) (q_F : tm_at M0 o0 12 0 (.ref F)) (yc : tm_at M0 F 5 4 (.int c)) (hc : 0 ≤ c.toInt ∧ c.toInt ≤ 300) (I0 : tm_I tm_FT (tm_in w_TrustDesk_fact_x) x9 T0 M0 n0 T0 M0 n0) : mj_Met g l kY_TrustDesk_fact (d + 1) [.ref o0, .int x1, .int x2, .int x3] M0 n0 0 0 (tm_Q tm_FT (tm_in w_TrustDesk_fact_x) x9 T0 M0 n0 (fun r _ M => ∃ v : Int32, r = some (.int v) ∧ 0 ≤ v.toInt ∧ v.toInt ≤ 1 ∧ ((v = 0 ∧ ¬ (0 ≤ x1.toInt ∧ x1.toInt ≤ 7 ∧ 0 ≤ x2.toInt ∧ x2.toInt ≤ 100 ∧ 0 ≤ x3.toInt ∧ x3.toInt ≤ 9999 ∧ c.toInt ≠ 300) ∧ tm_at M F 5 4 (.int c)) ∨ (v = 1 ∧ (0 ≤ x1.toInt ∧ x1.toInt ≤ 7 ∧ 0 ≤ x2.toInt ∧ x2.toInt ≤ 100 ∧ 0 ≤ x3.toInt ∧ x3.toInt ≤ 9999 ∧ c.toInt ≠ 300) ∧ tm_at M F 5 4 (.int (c + 1)))))) := by
  refine mj_enter (by decide) (Nat.le_of_ble_eq_true rfl) ?_
  refine mv_iload_n d_TrustDesk_fact_0 rfl rfl ?_
  refine mv_callS (kc1 := 0) (ks1 := 0) (kc' := 0) (ks' := 0) (As := [.int x1]) (st9 := [.int x1]) d_TrustDesk_fact_1 lS_TrustDesk_66 (mj_enter (by decide) (Nat.le_of_ble_eq_true rfl) ?_) rfl (Nat.le_of_ble_eq_true rfl) (Nat.le_of_ble_eq_true rfl) (Nat.le_of_ble_eq_true rfl) (hst := rfl) (fun _ _ _ h => h)
  refine mv_iload_n d_TrustDesk_isFact_0 rfl rfl ?_
  have := mz_hi x1
  refine mv_if_ltZ (tgt := 14) (a := x1.toInt) d_TrustDesk_isFact_1 (by decide) rfl (fun b1 => ?_) (fun b1 => ?_)
  · refine mv_iconst (v := 0) d_TrustDesk_isFact_14 (by decide) ?_
    refine mv_iret d_TrustDesk_isFact_15 rfl (by decide) ?_
    refine mv_if_eq_t (tgt := 25) d_TrustDesk_fact_4 (by decide) (by decide) ?_
    refine mv_iconst (v := 0) d_TrustDesk_fact_25 (by decide) ?_
    exact mv_iret d_TrustDesk_fact_26 rfl (by decide) ⟨_, I0, _, rfl, by decide, by decide, Or.inl ⟨rfl, by omega, yc⟩⟩
  · refine mv_iload_n d_TrustDesk_isFact_4 rfl rfl ?_
    refine mv_bipush (v := 8) d_TrustDesk_isFact_5 (by decide) ?_
    have := mz_hi x1
    refine mv_icmp_geZ (tgt := 14) (a := x1.toInt) (b := 8) d_TrustDesk_isFact_7 (by decide) rfl (by decide) (fun b2 => ?_) (fun b2 => ?_)
    · refine mv_iconst (v := 0) d_TrustDesk_isFact_14 (by decide) ?_
      refine mv_iret d_TrustDesk_isFact_15 rfl (by decide) ?_
      refine mv_if_eq_t (tgt := 25) d_TrustDesk_fact_4 (by decide) (by decide) ?_
      refine mv_iconst (v := 0) d_TrustDesk_fact_25 (by decide) ?_
      exact mv_iret d_TrustDesk_fact_26 rfl (by decide) ⟨_, I0, _, rfl, by decide, by decide, Or.inl ⟨rfl, by omega, yc⟩⟩
    · refine mv_iconst (v := 1) d_TrustDesk_isFact_10 (by decide) ?_
      refine mv_goto (tgt := 15) d_TrustDesk_isFact_11 (by decide) ?_
      refine mv_iret d_TrustDesk_isFact_15 rfl (by decide) ?_
      refine mv_if_eq_f (tgt := 25) d_TrustDesk_fact_4 (by decide) (by decide) ?_
      refine mv_iload_n d_TrustDesk_fact_7 rfl rfl ?_
      refine mv_callS (kc1 := 0) (ks1 := 0) (kc' := 0) (ks' := 0) (As := [.int x2]) (st9 := [.int x2]) d_TrustDesk_fact_8 lS_TrustDesk_70 (mj_enter (by decide) (Nat.le_of_ble_eq_true rfl) ?_) rfl (Nat.le_of_ble_eq_true rfl) (Nat.le_of_ble_eq_true rfl) (Nat.le_of_ble_eq_true rfl) (hst := rfl) (fun _ _ _ h => h)
      refine mv_iload_n d_TrustDesk_isYear_0 rfl rfl ?_
      have := mz_hi x2
      refine mv_if_ltZ (tgt := 14) (a := x2.toInt) d_TrustDesk_isYear_1 (by decide) rfl (fun b3 => ?_) (fun b3 => ?_)
      · refine mv_iconst (v := 0) d_TrustDesk_isYear_14 (by decide) ?_
        refine mv_iret d_TrustDesk_isYear_15 rfl (by decide) ?_
        refine mv_if_eq_t (tgt := 25) d_TrustDesk_fact_11 (by decide) (by decide) ?_
        refine mv_iconst (v := 0) d_TrustDesk_fact_25 (by decide) ?_
        exact mv_iret d_TrustDesk_fact_26 rfl (by decide) ⟨_, I0, _, rfl, by decide, by decide, Or.inl ⟨rfl, by omega, yc⟩⟩
      · refine mv_iload_n d_TrustDesk_isYear_4 rfl rfl ?_
        refine mv_bipush (v := 100) d_TrustDesk_isYear_5 (by decide) ?_
        have := mz_hi x2
        refine mv_icmp_gtZ (tgt := 14) (a := x2.toInt) (b := 100) d_TrustDesk_isYear_7 (by decide) rfl (by decide) (fun b4 => ?_) (fun b4 => ?_)
        · refine mv_iconst (v := 0) d_TrustDesk_isYear_14 (by decide) ?_
          refine mv_iret d_TrustDesk_isYear_15 rfl (by decide) ?_
          refine mv_if_eq_t (tgt := 25) d_TrustDesk_fact_11 (by decide) (by decide) ?_
          refine mv_iconst (v := 0) d_TrustDesk_fact_25 (by decide) ?_
          exact mv_iret d_TrustDesk_fact_26 rfl (by decide) ⟨_, I0, _, rfl, by decide, by decide, Or.inl ⟨rfl, by omega, yc⟩⟩
        · refine mv_iconst (v := 1) d_TrustDesk_isYear_10 (by decide) ?_
          refine mv_goto (tgt := 15) d_TrustDesk_isYear_11 (by decide) ?_
          refine mv_iret d_TrustDesk_isYear_15 rfl (by decide) ?_
          refine mv_if_eq_f (tgt := 25) d_TrustDesk_fact_11 (by decide) (by decide) ?_
          refine mv_iload_n d_TrustDesk_fact_14 rfl rfl ?_
          have := mz_hi x3
          refine mv_if_ltZ (tgt := 25) (a := x3.toInt) d_TrustDesk_fact_15 (by decide) rfl (fun b5 => ?_) (fun b5 => ?_)
          · refine mv_iconst (v := 0) d_TrustDesk_fact_25 (by decide) ?_
            exact mv_iret d_TrustDesk_fact_26 rfl (by decide) ⟨_, I0, _, rfl, by decide, by decide, Or.inl ⟨rfl, by omega, yc⟩⟩
          · refine mv_iload_n d_TrustDesk_fact_18 rfl rfl ?_
            refine mv_sipush (v := 9999) d_TrustDesk_fact_19 (by decide) ?_
            have := mz_hi x3
            refine mv_icmp_leZ (tgt := 27) (a := x3.toInt) (b := 9999) d_TrustDesk_fact_22 (by decide) rfl (by decide) (fun b6 => ?_) (fun b6 => ?_)
            · refine mv_aload_n d_TrustDesk_fact_27 rfl rfl ?_
              refine tr_getK (k := 0) q_F d_TrustDesk_fact_28 f_TrustDesk_10_12 ?_
              refine mv_iload_n d_TrustDesk_fact_31 rfl rfl ?_
              refine mv_iload_n d_TrustDesk_fact_32 rfl rfl ?_
              refine mv_iload_n d_TrustDesk_fact_33 rfl rfl ?_
              refine mv_aload_n d_TrustDesk_fact_34 rfl rfl ?_
              obtain ⟨v8, q7⟩ := tm_atI I0 h_o0 (k := 12) rfl
              refine tr_getK q7 d_TrustDesk_fact_35 f_TrustDesk_73_12 ?_
              obtain ⟨_, b9, -⟩ := I0.1 _ _ h_F
              refine mv_callV (kc1 := 0) (ks1 := 0) (kc' := 0) (ks' := 0) (As := [.int x1, .int x2, .int x3, .int v8]) (st9 := [.int v8, .int x3, .int x2, .int x1, .ref F]) d_TrustDesk_fact_38 lV_TrustDesk_77 b9 rfl (mj_enter (by decide) (Nat.le_of_ble_eq_true rfl) ?_) rfl (Nat.le_of_ble_eq_true rfl) (Nat.le_of_ble_eq_true rfl) (Nat.le_of_ble_eq_true rfl) (hst := rfl) (fun _ _ _ h => h)
              refine mv_aload_n d_Facts_tell_0 rfl rfl ?_
              refine tr_getK (k := 4) yc d_Facts_tell_1 f_Facts_24_5 ?_
              refine mv_istore (lv' := [(5, .int c), (0, .ref F), (1, .int x1), (2, .int x2), (3, .int x3), (4, .int v8)]) d_Facts_tell_4 (by decide) rfl ?_
              refine mv_iload d_Facts_tell_6 rfl ?_
              have := mz_hi c
              refine mv_if_ltZ (tgt := 19) (a := c.toInt) d_Facts_tell_8 (by decide) rfl (fun b10 => ?_) (fun b10 => ?_)
              · refine mv_iconst (v := 0) d_Facts_tell_19 (by decide) ?_
                refine mv_iret d_Facts_tell_20 rfl (by decide) ?_
                exact mv_iret d_TrustDesk_fact_41 rfl (by decide) ⟨_, I0, _, rfl, by decide, by decide, Or.inl ⟨rfl, by omega, yc⟩⟩
              · refine mv_iload d_Facts_tell_11 rfl ?_
                refine mv_sipush (v := 300) d_Facts_tell_13 (by decide) ?_
                have := mz_hi c
                refine mv_icmp_ltZ (tgt := 21) (a := c.toInt) (b := 300) d_Facts_tell_16 (by decide) rfl (by decide) (fun b11 => ?_) (fun b11 => ?_)
                · refine mv_aload_n d_Facts_tell_21 rfl rfl ?_
                  obtain ⟨a13, q12, t_a13⟩ := tm_atR I0 h_F (k := 0) rfl
                  refine tr_getK q12 d_Facts_tell_22 f_Facts_9_5 ?_
                  refine mv_iload d_Facts_tell_25 rfl ?_
                  refine mv_iload_n d_Facts_tell_27 rfl rfl ?_
                  refine tr_iastK tm_okF I0 t_a13 (by decide) (Or.inl (by decide)) d_Facts_tell_28 (vp_in_iff.mpr (by omega)) (fun M14 I15 K16 => ?_)
                  refine mv_aload_n d_Facts_tell_29 rfl rfl ?_
                  obtain ⟨a18, q17, t_a18⟩ := tm_atR I15 h_F (k := 1) rfl
                  refine tr_getK q17 d_Facts_tell_30 f_Facts_15_5 ?_
                  refine mv_iload d_Facts_tell_33 rfl ?_
                  refine mv_iload_n d_Facts_tell_35 rfl rfl ?_
                  refine tr_iastK tm_okF I15 t_a18 (by decide) (Or.inl (by decide)) d_Facts_tell_36 (vp_in_iff.mpr (by omega)) (fun M19 I20 K21 => ?_)
                  refine mv_aload_n d_Facts_tell_37 rfl rfl ?_
                  obtain ⟨a23, q22, t_a23⟩ := tm_atR I20 h_F (k := 2) rfl
                  refine tr_getK q22 d_Facts_tell_38 f_Facts_18_5 ?_
                  refine mv_iload d_Facts_tell_41 rfl ?_
                  refine mv_iload_n d_Facts_tell_43 rfl rfl ?_
                  refine tr_iastK tm_okF I20 t_a23 (by decide) (Or.inl (by decide)) d_Facts_tell_44 (vp_in_iff.mpr (by omega)) (fun M24 I25 K26 => ?_)
                  refine mv_aload_n d_Facts_tell_45 rfl rfl ?_
                  obtain ⟨a28, q27, t_a28⟩ := tm_atR I25 h_F (k := 3) rfl
                  refine tr_getK q27 d_Facts_tell_46 f_Facts_21_5 ?_
                  refine mv_iload d_Facts_tell_49 rfl ?_
                  refine mv_iload d_Facts_tell_51 rfl ?_
                  refine tr_iastK tm_okF I25 t_a28 (by decide) (Or.inl (by decide)) d_Facts_tell_53 (vp_in_iff.mpr (by omega)) (fun M29 I30 K31 => ?_)
                  refine mv_aload_n d_Facts_tell_54 rfl rfl ?_
                  refine mv_dup d_Facts_tell_55 rfl ?_
                  refine tr_getK (k := 4) (K31 _ 5 4 _ (K26 _ 5 4 _ (K21 _ 5 4 _ (K16 _ 5 4 _ yc)))) d_Facts_tell_56 f_Facts_24_5 ?_
                  refine mv_iconst (v := 1) d_Facts_tell_59 (by decide) ?_
                  refine mv_iadd d_Facts_tell_60 ?_
                  refine tr_putK tm_okF I30 h_F (k := 4) rfl ⟨_, rfl⟩ (Or.inl (by decide)) d_Facts_tell_61 p_Facts_24_5 rfl rfl (fun M32 I33 q34 K35 => ?_)
                  refine mv_iconst (v := 1) d_Facts_tell_64 (by decide) ?_
                  refine mv_iret d_Facts_tell_65 rfl (by decide) ?_
                  exact mv_iret d_TrustDesk_fact_41 rfl (by decide) ⟨_, I33, _, rfl, by decide, by decide, Or.inr ⟨rfl, by omega, q34⟩⟩
                · refine mv_iconst (v := 0) d_Facts_tell_19 (by decide) ?_
                  refine mv_iret d_Facts_tell_20 rfl (by decide) ?_
                  exact mv_iret d_TrustDesk_fact_41 rfl (by decide) ⟨_, I0, _, rfl, by decide, by decide, Or.inl ⟨rfl, by omega, yc⟩⟩
            · refine mv_iconst (v := 0) d_TrustDesk_fact_25 (by decide) ?_
              exact mv_iret d_TrustDesk_fact_26 rfl (by decide) ⟨_, I0, _, rfl, by decide, by decide, Or.inl ⟨rfl, by omega, yc⟩⟩
set_option maxHeartbeats 100000000 in theorem tc_TrustDeskModel_fact_y {g : mj_G} {l : Launch} {d : Nat} {T0 : tm_H} {M0 : mj_M} {n0 x9 : Nat} {o0 : Nat} {x1 : Int32} {x2 : Int32} {x3 : Int32} (h_o0 : T0 o0 = some (0, 13, 0)) (yR : rI M0 o0) {c : Int32} (y_c : tm_at M0 o0 13 2 (.int c)) (I0 : tm_I tm_FT (tm_in w_TrustDeskModel_fact_x) x9 T0 M0 n0 T0 M0 n0) : mj_Met g l kY_TrustDeskModel_fact (d + 1) [.ref o0, .int x1, .int x2, .int x3] M0 n0 0 0 (tm_Q tm_FT (tm_in w_TrustDeskModel_fact_x) x9 T0 M0 n0 (fun r _ M => ∃ v : Int32, r = some (.int v) ∧ 0 ≤ v.toInt ∧ v.toInt ≤ 1 ∧ rI M o0 ∧ ((v = 0 ∧ ¬ (0 ≤ x1.toInt ∧ x1.toInt ≤ 7 ∧ 0 ≤ x2.toInt ∧ x2.toInt ≤ 100 ∧ 0 ≤ x3.toInt ∧ x3.toInt ≤ 9999 ∧ c.toInt ≠ 300) ∧ tm_at M o0 13 2 (.int c)) ∨ (v = 1 ∧ (0 ≤ x1.toInt ∧ x1.toInt ≤ 7 ∧ 0 ≤ x2.toInt ∧ x2.toInt ≤ 100 ∧ 0 ≤ x3.toInt ∧ x3.toInt ≤ 9999 ∧ c.toInt ≠ 300) ∧ tm_at M o0 13 2 (.int (c + 1)))))) := by
  refine mj_enter (by decide) (Nat.le_of_ble_eq_true rfl) ?_
  have := yR.f (k := 2) y_c rfl
  refine mv_aload_n d_TrustDeskModel_fact_0 rfl rfl ?_
  refine mv_iconst (v := 0) d_TrustDeskModel_fact_1 (by decide) ?_
  refine tr_putR (k := 0) I0 yR h_o0 rfl ⟨_, rfl⟩ (fun _ h => by cases h) rfl (fun lo hi h => by cases h) (Or.inl (by decide)) d_TrustDeskModel_fact_2 p_TrustDeskModel_1_13 rfl rfl (fun M1 I2 q3 K4 R5 A6 V7 => ?_)
  refine mv_iload_n d_TrustDeskModel_fact_5 rfl rfl ?_
  refine mv_i2l (v := x1.toInt64) d_TrustDeskModel_fact_6 rfl ?_
  refine mv_lconst (v := 0) d_TrustDeskModel_fact_7 (by decide) ?_
  refine mv_ldc2 d_TrustDeskModel_fact_8 k_TrustDeskModel_167 ?_
  refine mv_callS (kc1 := 0) (ks1 := 0) (kc' := 0) (ks' := 0) (As := [.long x1.toInt64, .long 0, .long 7]) (st9 := [.long 7, .long 0, .long x1.toInt64]) d_TrustDeskModel_fact_11 lS_TrustDeskModel_169 (mj_enter (by decide) (Nat.le_of_ble_eq_true rfl) ?_) rfl (Nat.le_of_ble_eq_true rfl) (Nat.le_of_ble_eq_true rfl) (Nat.le_of_ble_eq_true rfl) (hst := rfl) (fun _ _ _ h => h)
  refine mv_lload_n d_TrustDeskModel_within_0 rfl rfl ?_
  refine mv_lload_n d_TrustDeskModel_within_1 rfl rfl ?_
  refine mv_lltZ (tgt := 17) (a := x1.toInt) (b := 0) d_TrustDeskModel_within_2 d_TrustDeskModel_within_3 (by decide) (mz_wide _) (by decide) (fun b8 => ?_) (fun b8 => ?_)
  · refine mv_iconst (v := 0) d_TrustDeskModel_within_17 (by decide) ?_
    refine mv_iret d_TrustDeskModel_within_18 rfl (by decide) ?_
    refine mv_if_eq_t (tgt := 46) d_TrustDeskModel_fact_14 (by decide) (by decide) ?_
    refine mv_iconst (v := 0) d_TrustDeskModel_fact_46 (by decide) ?_
    exact mv_iret d_TrustDeskModel_fact_47 rfl (by decide) ⟨_, I2, _, rfl, by decide, by decide, R5, (Or.inl ⟨rfl, (by omega), (K4 _ 13 2 _ rfl y_c)⟩)⟩
  · refine mv_lload_n d_TrustDeskModel_within_6 rfl rfl ?_
    refine mv_lload d_TrustDeskModel_within_7 rfl ?_
    refine mv_lgtZ (tgt := 17) (a := x1.toInt) (b := 7) d_TrustDeskModel_within_9 d_TrustDeskModel_within_10 (by decide) (mz_wide _) (by decide) (fun b9 => ?_) (fun b9 => ?_)
    · refine mv_iconst (v := 0) d_TrustDeskModel_within_17 (by decide) ?_
      refine mv_iret d_TrustDeskModel_within_18 rfl (by decide) ?_
      refine mv_if_eq_t (tgt := 46) d_TrustDeskModel_fact_14 (by decide) (by decide) ?_
      refine mv_iconst (v := 0) d_TrustDeskModel_fact_46 (by decide) ?_
      exact mv_iret d_TrustDeskModel_fact_47 rfl (by decide) ⟨_, I2, _, rfl, by decide, by decide, R5, (Or.inl ⟨rfl, (by omega), (K4 _ 13 2 _ rfl y_c)⟩)⟩
    · refine mv_iconst (v := 1) d_TrustDeskModel_within_13 (by decide) ?_
      refine mv_goto (tgt := 18) d_TrustDeskModel_within_14 (by decide) ?_
      refine mv_iret d_TrustDeskModel_within_18 rfl (by decide) ?_
      refine mv_if_eq_f (tgt := 46) d_TrustDeskModel_fact_14 (by decide) (by decide) ?_
      refine mv_iload_n d_TrustDeskModel_fact_17 rfl rfl ?_
      refine mv_callS (kc1 := 0) (ks1 := 0) (kc' := 0) (ks' := 0) (As := [.int x2]) (st9 := [.int x2]) d_TrustDeskModel_fact_18 lS_TrustDeskModel_173 (mj_enter (by decide) (Nat.le_of_ble_eq_true rfl) ?_) rfl (Nat.le_of_ble_eq_true rfl) (Nat.le_of_ble_eq_true rfl) (Nat.le_of_ble_eq_true rfl) (hst := rfl) (fun _ _ _ h => h)
      refine mv_iload_n d_TrustDeskModel_isYear_0 rfl rfl ?_
      have := mz_hi x2
      refine mv_if_ltZ (tgt := 14) (a := x2.toInt) d_TrustDeskModel_isYear_1 (by decide) rfl (fun b10 => ?_) (fun b10 => ?_)
      · refine mv_iconst (v := 0) d_TrustDeskModel_isYear_14 (by decide) ?_
        refine mv_iret d_TrustDeskModel_isYear_15 rfl (by decide) ?_
        refine mv_if_eq_t (tgt := 46) d_TrustDeskModel_fact_21 (by decide) (by decide) ?_
        refine mv_iconst (v := 0) d_TrustDeskModel_fact_46 (by decide) ?_
        exact mv_iret d_TrustDeskModel_fact_47 rfl (by decide) ⟨_, I2, _, rfl, by decide, by decide, R5, (Or.inl ⟨rfl, (by omega), (K4 _ 13 2 _ rfl y_c)⟩)⟩
      · refine mv_iload_n d_TrustDeskModel_isYear_4 rfl rfl ?_
        refine mv_bipush (v := 100) d_TrustDeskModel_isYear_5 (by decide) ?_
        have := mz_hi x2
        refine mv_icmp_gtZ (tgt := 14) (a := x2.toInt) (b := 100) d_TrustDeskModel_isYear_7 (by decide) rfl (by decide) (fun b11 => ?_) (fun b11 => ?_)
        · refine mv_iconst (v := 0) d_TrustDeskModel_isYear_14 (by decide) ?_
          refine mv_iret d_TrustDeskModel_isYear_15 rfl (by decide) ?_
          refine mv_if_eq_t (tgt := 46) d_TrustDeskModel_fact_21 (by decide) (by decide) ?_
          refine mv_iconst (v := 0) d_TrustDeskModel_fact_46 (by decide) ?_
          exact mv_iret d_TrustDeskModel_fact_47 rfl (by decide) ⟨_, I2, _, rfl, by decide, by decide, R5, (Or.inl ⟨rfl, (by omega), (K4 _ 13 2 _ rfl y_c)⟩)⟩
        · refine mv_iconst (v := 1) d_TrustDeskModel_isYear_10 (by decide) ?_
          refine mv_goto (tgt := 15) d_TrustDeskModel_isYear_11 (by decide) ?_
          refine mv_iret d_TrustDeskModel_isYear_15 rfl (by decide) ?_
          refine mv_if_eq_f (tgt := 46) d_TrustDeskModel_fact_21 (by decide) (by decide) ?_
          refine mv_iload_n d_TrustDeskModel_fact_24 rfl rfl ?_
          refine mv_i2l (v := x3.toInt64) d_TrustDeskModel_fact_25 rfl ?_
          refine mv_lconst (v := 0) d_TrustDeskModel_fact_26 (by decide) ?_
          refine mv_ldc2 d_TrustDeskModel_fact_27 k_TrustDeskModel_177 ?_
          refine mv_callS (kc1 := 0) (ks1 := 0) (kc' := 0) (ks' := 0) (As := [.long x3.toInt64, .long 0, .long 9999]) (st9 := [.long 9999, .long 0, .long x3.toInt64]) d_TrustDeskModel_fact_30 lS_TrustDeskModel_169 (mj_enter (by decide) (Nat.le_of_ble_eq_true rfl) ?_) rfl (Nat.le_of_ble_eq_true rfl) (Nat.le_of_ble_eq_true rfl) (Nat.le_of_ble_eq_true rfl) (hst := rfl) (fun _ _ _ h => h)
          refine mv_lload_n d_TrustDeskModel_within_0 rfl rfl ?_
          refine mv_lload_n d_TrustDeskModel_within_1 rfl rfl ?_
          refine mv_lltZ (tgt := 17) (a := x3.toInt) (b := 0) d_TrustDeskModel_within_2 d_TrustDeskModel_within_3 (by decide) (mz_wide _) (by decide) (fun b12 => ?_) (fun b12 => ?_)
          · refine mv_iconst (v := 0) d_TrustDeskModel_within_17 (by decide) ?_
            refine mv_iret d_TrustDeskModel_within_18 rfl (by decide) ?_
            refine mv_if_eq_t (tgt := 46) d_TrustDeskModel_fact_33 (by decide) (by decide) ?_
            refine mv_iconst (v := 0) d_TrustDeskModel_fact_46 (by decide) ?_
            exact mv_iret d_TrustDeskModel_fact_47 rfl (by decide) ⟨_, I2, _, rfl, by decide, by decide, R5, (Or.inl ⟨rfl, (by omega), (K4 _ 13 2 _ rfl y_c)⟩)⟩
          · refine mv_lload_n d_TrustDeskModel_within_6 rfl rfl ?_
            refine mv_lload d_TrustDeskModel_within_7 rfl ?_
            refine mv_lgtZ (tgt := 17) (a := x3.toInt) (b := 9999) d_TrustDeskModel_within_9 d_TrustDeskModel_within_10 (by decide) (mz_wide _) (by decide) (fun b13 => ?_) (fun b13 => ?_)
            · refine mv_iconst (v := 0) d_TrustDeskModel_within_17 (by decide) ?_
              refine mv_iret d_TrustDeskModel_within_18 rfl (by decide) ?_
              refine mv_if_eq_t (tgt := 46) d_TrustDeskModel_fact_33 (by decide) (by decide) ?_
              refine mv_iconst (v := 0) d_TrustDeskModel_fact_46 (by decide) ?_
              exact mv_iret d_TrustDeskModel_fact_47 rfl (by decide) ⟨_, I2, _, rfl, by decide, by decide, R5, (Or.inl ⟨rfl, (by omega), (K4 _ 13 2 _ rfl y_c)⟩)⟩
            · refine mv_iconst (v := 1) d_TrustDeskModel_within_13 (by decide) ?_
              refine mv_goto (tgt := 18) d_TrustDeskModel_within_14 (by decide) ?_
              refine mv_iret d_TrustDeskModel_within_18 rfl (by decide) ?_
              refine mv_if_eq_f (tgt := 46) d_TrustDeskModel_fact_33 (by decide) (by decide) ?_
              refine mv_aload_n d_TrustDeskModel_fact_36 rfl rfl ?_
              refine tr_getK (k := 2) (K4 _ 13 2 _ rfl y_c) d_TrustDeskModel_fact_37 f_TrustDeskModel_179_13 ?_
              refine mv_sipush (v := 300) d_TrustDeskModel_fact_40 (by decide) ?_
              have := mz_hi c
              refine mv_icmp_neZ (tgt := 48) (a := c.toInt) (b := 300) d_TrustDeskModel_fact_43 (by decide) rfl (by decide) (fun b14 => ?_) (fun b14 => ?_)
              · refine mv_aload_n d_TrustDeskModel_fact_48 rfl rfl ?_
                obtain ⟨a16, q15, t_a16⟩ := tm_atR I2 h_o0 (k := 3) rfl
                refine tr_getK q15 d_TrustDeskModel_fact_49 f_TrustDeskModel_13_13 ?_
                refine mv_iconst (v := 4) d_TrustDeskModel_fact_52 (by decide) ?_
                refine mv_aload_n d_TrustDeskModel_fact_53 rfl rfl ?_
                refine tr_getK (k := 2) (K4 _ 13 2 _ rfl y_c) d_TrustDeskModel_fact_54 f_TrustDeskModel_179_13 ?_
                refine mv_imul d_TrustDeskModel_fact_57 ?_
                refine mv_iload_n d_TrustDeskModel_fact_58 rfl rfl ?_
                have b17 : (4 * c : Int32).toInt = (4 * c.toInt) := mz_mul2 (by decide) rfl (by omega) (by omega)
                refine tr_iastR (k := 3) I2 R5 (I2.up h_o0) q15 t_a16 (by decide) (by decide) (fun lo hi h => by cases h; exact ⟨by show (0 : Int) ≤ x1.toInt; omega, by show x1.toInt ≤ (36000 : Int); omega⟩) (Or.inl (by decide)) d_TrustDeskModel_fact_59 (vp_in_iff.mpr (by omega)) (fun M18 I19 K20 R21 E22 A23 V24 => ?_)
                refine mv_aload_n d_TrustDeskModel_fact_60 rfl rfl ?_
                refine tr_getK (k := 3) (K20 _ 13 3 _ q15) d_TrustDeskModel_fact_61 f_TrustDeskModel_13_13 ?_
                refine mv_iconst (v := 4) d_TrustDeskModel_fact_64 (by decide) ?_
                refine mv_aload_n d_TrustDeskModel_fact_65 rfl rfl ?_
                refine tr_getK (k := 2) (K20 _ 13 2 _ (K4 _ 13 2 _ rfl y_c)) d_TrustDeskModel_fact_66 f_TrustDeskModel_179_13 ?_
                refine mv_imul d_TrustDeskModel_fact_69 ?_
                refine mv_iconst (v := 1) d_TrustDeskModel_fact_70 (by decide) ?_
                refine mv_iadd d_TrustDeskModel_fact_71 ?_
                refine mv_iload_n d_TrustDeskModel_fact_72 rfl rfl ?_
                have b25 : (4 * c : Int32).toInt = (4 * c.toInt) := mz_mul2 (by decide) rfl (by omega) (by omega)
                have b26 : ((4 * c) + 1 : Int32).toInt = ((4 * c.toInt) + 1) := mz_add2 b25 (by decide) (by omega) (by omega)
                refine tr_iastR (k := 3) I19 R21 (I19.up h_o0) (K20 _ 13 3 _ q15) t_a16 (by decide) (by decide) (fun lo hi h => by cases h; exact ⟨by show (0 : Int) ≤ x2.toInt; omega, by show x2.toInt ≤ (36000 : Int); omega⟩) (Or.inl (by decide)) d_TrustDeskModel_fact_73 (vp_in_iff.mpr (by omega)) (fun M27 I28 K29 R30 E31 A32 V33 => ?_)
                refine mv_aload_n d_TrustDeskModel_fact_74 rfl rfl ?_
                refine tr_getK (k := 3) (K29 _ 13 3 _ (K20 _ 13 3 _ q15)) d_TrustDeskModel_fact_75 f_TrustDeskModel_13_13 ?_
                refine mv_iconst (v := 4) d_TrustDeskModel_fact_78 (by decide) ?_
                refine mv_aload_n d_TrustDeskModel_fact_79 rfl rfl ?_
                refine tr_getK (k := 2) (K29 _ 13 2 _ (K20 _ 13 2 _ (K4 _ 13 2 _ rfl y_c))) d_TrustDeskModel_fact_80 f_TrustDeskModel_179_13 ?_
                refine mv_imul d_TrustDeskModel_fact_83 ?_
                refine mv_iconst (v := 2) d_TrustDeskModel_fact_84 (by decide) ?_
                refine mv_iadd d_TrustDeskModel_fact_85 ?_
                refine mv_iload_n d_TrustDeskModel_fact_86 rfl rfl ?_
                have b34 : (4 * c : Int32).toInt = (4 * c.toInt) := mz_mul2 (by decide) rfl (by omega) (by omega)
                have b35 : ((4 * c) + 2 : Int32).toInt = ((4 * c.toInt) + 2) := mz_add2 b34 (by decide) (by omega) (by omega)
                refine tr_iastR (k := 3) I28 R30 (I28.up h_o0) (K29 _ 13 3 _ (K20 _ 13 3 _ q15)) t_a16 (by decide) (by decide) (fun lo hi h => by cases h; exact ⟨by show (0 : Int) ≤ x3.toInt; omega, by show x3.toInt ≤ (36000 : Int); omega⟩) (Or.inl (by decide)) d_TrustDeskModel_fact_87 (vp_in_iff.mpr (by omega)) (fun M36 I37 K38 R39 E40 A41 V42 => ?_)
                refine mv_aload_n d_TrustDeskModel_fact_88 rfl rfl ?_
                refine tr_getK (k := 3) (K38 _ 13 3 _ (K29 _ 13 3 _ (K20 _ 13 3 _ q15))) d_TrustDeskModel_fact_89 f_TrustDeskModel_13_13 ?_
                refine mv_iconst (v := 4) d_TrustDeskModel_fact_92 (by decide) ?_
                refine mv_aload_n d_TrustDeskModel_fact_93 rfl rfl ?_
                refine tr_getK (k := 2) (K38 _ 13 2 _ (K29 _ 13 2 _ (K20 _ 13 2 _ (K4 _ 13 2 _ rfl y_c)))) d_TrustDeskModel_fact_94 f_TrustDeskModel_179_13 ?_
                refine mv_imul d_TrustDeskModel_fact_97 ?_
                refine mv_iconst (v := 3) d_TrustDeskModel_fact_98 (by decide) ?_
                refine mv_iadd d_TrustDeskModel_fact_99 ?_
                refine mv_aload_n d_TrustDeskModel_fact_100 rfl rfl ?_
                obtain ⟨v44, q43⟩ := tm_atI I37 h_o0 (k := 1) rfl
                refine tr_getK q43 d_TrustDeskModel_fact_101 f_TrustDeskModel_164_13 ?_
                have := R39.f (k := 1) q43 rfl
                have b45 : (4 * c : Int32).toInt = (4 * c.toInt) := mz_mul2 (by decide) rfl (by omega) (by omega)
                have b46 : ((4 * c) + 3 : Int32).toInt = ((4 * c.toInt) + 3) := mz_add2 b45 (by decide) (by omega) (by omega)
                refine tr_iastR (k := 3) I37 R39 (I37.up h_o0) (K38 _ 13 3 _ (K29 _ 13 3 _ (K20 _ 13 3 _ q15))) t_a16 (by decide) (by decide) (fun lo hi h => by cases h; exact ⟨by show (0 : Int) ≤ v44.toInt; omega, by show v44.toInt ≤ (36000 : Int); omega⟩) (Or.inl (by decide)) d_TrustDeskModel_fact_104 (vp_in_iff.mpr (by omega)) (fun M47 I48 K49 R50 E51 A52 V53 => ?_)
                refine mv_aload_n d_TrustDeskModel_fact_105 rfl rfl ?_
                refine mv_dup d_TrustDeskModel_fact_106 rfl ?_
                refine tr_getK (k := 2) (K49 _ 13 2 _ (K38 _ 13 2 _ (K29 _ 13 2 _ (K20 _ 13 2 _ (K4 _ 13 2 _ rfl y_c))))) d_TrustDeskModel_fact_107 f_TrustDeskModel_179_13 ?_
                refine mv_iconst (v := 1) d_TrustDeskModel_fact_110 (by decide) ?_
                refine mv_iadd d_TrustDeskModel_fact_111 ?_
                have b54 : (c + 1 : Int32).toInt = (c.toInt + 1) := mz_add2 rfl (by decide) (by omega) (by omega)
                refine tr_putR (k := 2) I48 R50 h_o0 rfl ⟨_, rfl⟩ (fun _ h => by cases h) rfl (fun lo hi h => by cases h; exact ⟨by show (0 : Int) ≤ (c + 1).toInt; omega, by show (c + 1).toInt ≤ (300 : Int); omega⟩) (Or.inl (by decide)) d_TrustDeskModel_fact_112 p_TrustDeskModel_179_13 rfl rfl (fun M55 I56 q57 K58 R59 A60 V61 => ?_)
                refine mv_iconst (v := 1) d_TrustDeskModel_fact_115 (by decide) ?_
                exact mv_iret d_TrustDeskModel_fact_116 rfl (by decide) ⟨_, I56, _, rfl, by decide, by decide, R59, (Or.inr ⟨rfl, (by omega), q57⟩)⟩
              · refine mv_iconst (v := 0) d_TrustDeskModel_fact_46 (by decide) ?_
                exact mv_iret d_TrustDeskModel_fact_47 rfl (by decide) ⟨_, I2, _, rfl, by decide, by decide, R5, (Or.inl ⟨rfl, (by omega), (K4 _ 13 2 _ rfl y_c)⟩)⟩
/-- THE FACTS TOLD, as many in both -/
def lx_K (T : tm_H) (M : mj_M) (_n : Nat) (_t : Int32) : Prop := ∃ (F : Nat) (c : Int32), T F = some (0, 5, 0) ∧ tm_at M 64 12 0 (.ref F) ∧ tm_at M F 5 4 (.int c) ∧ tm_at M 99 13 2 (.int c) ∧ 0 ≤ c.toInt ∧ c.toInt ≤ 300
def lx_bK (k : Nat) : Bool := Nat.beq k 504 || Nat.beq k 1200 || Nat.beq k 1302
theorem lx_Kkeep {W : Nat → Bool} {x n n1 Lf : Nat} {T T1 : tm_H} {M M1 : mj_M} {t u t9 : Int32} (h : lx_I T M n Lf t u) (J : tm_I tm_FT W x T M n T1 M1 n1) (hW : ∀ k, lx_bK k = true → W k = false) (k : lx_K T M n t9) : lx_K T1 M1 n1 t9 := by
  obtain ⟨F, c, h1, h2, h3, h4, h5⟩ := k
  exact ⟨F, c, J.up h1, J.keep h.2.1 (hW 1200 rfl) h2, J.keep h1 (hW 504 rfl) h3, J.keep h.2.2.1 (hW 1302 rfl) h4, h5⟩
theorem lx_Kt {n : Nat} {T : tm_H} {M : mj_M} {t t1 : Int32} (_ : t.toInt ≤ t1.toInt) (k : lx_K T M n t) : lx_K T M n t1 := k
