theorem d_TrustDeskModel_product_11 : decode kY_TrustDeskModel_product.2.1 11 = .ok (.aload_n 0, 1) := by decide +kernel
theorem d_TrustDeskModel_product_12 : decode kY_TrustDeskModel_product.2.1 12 = .ok (.bipush 42, 2) := by decide +kernel
theorem d_TrustDeskModel_product_14 : decode kY_TrustDeskModel_product.2.1 14 = .ok (.invokevirtual 234, 3) := by decide +kernel
theorem d_TrustDeskModel_product_17 : decode kY_TrustDeskModel_product.2.1 17 = .ok (.ifCond .eq 20, 3) := by decide +kernel
theorem d_TrustDeskModel_product_20 : decode kY_TrustDeskModel_product.2.1 20 = .ok (.aload_n 0, 1) := by decide +kernel
theorem d_TrustDeskModel_product_21 : decode kY_TrustDeskModel_product.2.1 21 = .ok (.invokevirtual 237, 3) := by decide +kernel
theorem d_TrustDeskModel_product_24 : decode kY_TrustDeskModel_product.2.1 24 = .ok (.aload_n 0, 1) := by decide +kernel
theorem d_TrustDeskModel_product_25 : decode kY_TrustDeskModel_product.2.1 25 = .ok (.invokevirtual 294, 3) := by decide +kernel
theorem d_TrustDeskModel_product_28 : decode kY_TrustDeskModel_product.2.1 28 = .ok (.aload_n 0, 1) := by decide +kernel
theorem d_TrustDeskModel_product_29 : decode kY_TrustDeskModel_product.2.1 29 = .ok (.bipush (-3), 2) := by decide +kernel
theorem d_TrustDeskModel_product_31 : decode kY_TrustDeskModel_product.2.1 31 = .ok (.invokevirtual 279, 3) := by decide +kernel
theorem d_TrustDeskModel_product_34 : decode kY_TrustDeskModel_product.2.1 34 = .ok (.goto (-30), 3) := by decide +kernel
def w_TrustDeskModel_product_q1_x : List Nat := [1315, 1316, 1317, 1318, 1319, 1320, 1322, 20004, 20005]
set_option maxHeartbeats 100000000 in theorem tc_TrustDeskModel_product_q1_x {g : mj_G} {l : Launch} {d : Nat} {T0 : tm_H} {M0 : mj_M} {n0 x9 : Nat} {o0 : Nat} (h_o0 : T0 o0 = some (0, 13, 0)) (yR : rI M0 o0) (yT : rT M0 o0) (yS : rv M0 o0 19 = 0 → ra M0 o0 5 44 ≤ rv M0 o0 16) (yL : rv M0 o0 19 ≠ 0 ∨ (4 ≤ rv M0 o0 22 ∧ rv M0 o0 22 ≤ 4)) {pb : Nat → Int} {pn : Nat} {pa : Int} {ps : p_S} (yO : pO M0 o0 pb pn pa ps) (I0 : tm_I tm_FT (tm_in w_TrustDeskModel_product_q1_x) x9 T0 M0 n0 T0 M0 n0) : mj_Met g l kY_TrustDeskModel_product (d + 7) [.ref o0] M0 n0 0 0 (tm_Q tm_FT (tm_in w_TrustDeskModel_product_q1_x) x9 T0 M0 n0 (fun r _ M => r = none ∧ rI M o0 ∧ (rE M0 M o0 1 0) ∧ (rv M o0 19 = 0 → rv M o0 22 = rv M0 o0 22) ∧ (pO M o0 pb pn pa (p_pro pb pn pa (p_op pb pn pa 0) ps)))) := by
  refine mj_enter (by decide) (Nat.le_of_ble_eq_true rfl) ?_
  have yE0 := rE.rf yT
  have := yO.w
  refine mv_aload_n d_TrustDeskModel_product_0 rfl rfl ?_
  obtain ⟨_, b7, -⟩ := I0.1 _ _ h_o0
  refine mv_callV (kc' := 0) (ks' := 0) (As := []) (st9 := [.ref o0]) d_TrustDeskModel_product_1 lV_TrustDeskModel_294 b7 rfl (tc_TrustDeskModel_factor_q1_x (d := d) (x9 := x9) (o0 := o0) h_o0 yR yE0.1 (by have := yR.1 15 _ _ rfl; have := yR.1 16 _ _ rfl; have := yR.1 19 _ _ rfl; have := yE0.f yS; omega) (by have := yR.1 15 _ _ rfl; have := yR.1 16 _ _ rfl; have := yR.1 19 _ _ rfl; have := yE0.f yS; omega) yO I0.start) rfl (Nat.le_of_ble_eq_true rfl) (Nat.le_of_ble_eq_true rfl) (Nat.le_of_ble_eq_true rfl) (hst := rfl) (fun b1r M2 n3 b1 => ?_)
  obtain ⟨T4, J5, rfl, R8, f9, f10, f11⟩ := b1
  have I6 := I0.call J5 (tm_sub (by decide)) (Or.inl rfl)
  have t12 := J5.up h_o0
  have E13 : rE M0 M2 o0 1 0 := yE0.trans f9 (by decide) (yR.2 5 _ _ rfl 44).1 (by decide) (by decide)
  have := f9.w
  obtain ⟨s14, e15⟩ : ∃ s9 : p_S, p_fac pb pn pa (p_op pb pn pa 0) ps = s9 := ⟨_, rfl⟩
  rw [e15] at f11
  have := f11.w
  have L4_16 : ∀ (k : Nat) (T_16 : tm_H) (M_16 : mj_M) (n_16 : Nat), tm_I tm_FT (tm_in w_TrustDeskModel_product_q1_x) x9 T0 M0 n0 T_16 M_16 n_16 → T_16 o0 = some (0, 13, 0) → (rv M_16 o0 19 = 0 → rv M_16 o0 22 = rv M0 o0 22) → (rI M_16 o0) → (rE M0 M_16 o0 1 0) → (∃ s1 : p_S, pO M_16 o0 pb pn pa s1 ∧ p_lp pn (p_pr1 pb pn pa (p_op pb pn pa 0)) s1 = p_pro pb pn pa (p_op pb pn pa 0) ps) → 5 * (401 - rv M_16 o0 16) - rv M_16 o0 19 < (k : Int) → mj_V g l kY_TrustDeskModel_product (d + 7) 4 [(0, .ref o0)] [] M_16 n_16 0 0 (tm_Q tm_FT (tm_in w_TrustDeskModel_product_q1_x) x9 T0 M0 n0 (fun r _ M => r = none ∧ rI M o0 ∧ (rE M0 M o0 1 0) ∧ (rv M o0 19 = 0 → rv M o0 22 = rv M0 o0 22) ∧ (pO M o0 pb pn pa (p_pro pb pn pa (p_op pb pn pa 0) ps)))) := by
    intro k16
    induction k16 with
    | zero =>
      intro T_16 M_16 n_16 I_16 h_q0_16 iv0_16 kKR_16 kKE_16 kKT9_16 hk16
      have := kKR_16.1 15 _ _ rfl
      have := kKR_16.1 16 _ _ rfl
      have := kKR_16.1 19 _ _ rfl
      exfalso; omega
    | succ k16 ih16 =>
      intro T_16 M_16 n_16 I_16 h_q0_16 iv0_16 kKR_16 kKE_16 kKT9_16 hk16
      have := kKE_16.f yS
      obtain ⟨s17, Z918, e19⟩ := kKT9_16
      have := Z918.w
      refine mv_aload_n d_TrustDeskModel_product_4 rfl rfl ?_
      obtain ⟨_, b20, -⟩ := I_16.1 _ _ h_q0_16
      refine mv_callV (kc1 := 0) (ks1 := 0) (kc' := 0) (ks' := 0) (As := []) (st9 := [.ref o0]) d_TrustDeskModel_product_5 lV_TrustDeskModel_230 b20 rfl (mj_enter (by decide) (Nat.le_of_ble_eq_true rfl) ?_) rfl (Nat.le_of_ble_eq_true rfl) (Nat.le_of_ble_eq_true rfl) (Nat.le_of_ble_eq_true rfl) (hst := rfl) (fun _ _ _ h => h)
      refine mv_aload_n d_TrustDeskModel_isWell_0 rfl rfl ?_
      obtain ⟨v22, q21⟩ := tm_atI I_16 h_q0_16 (k := 19) rfl
      refine tr_getK q21 d_TrustDeskModel_isWell_1 f_TrustDeskModel_224_13 ?_
      have := kKR_16.f (k := 19) q21 rfl
      have := tm_rv q21
      have := mz_hi v22
      refine mv_if_neZ (tgt := 11) (a := v22.toInt) d_TrustDeskModel_isWell_4 (by decide) rfl (fun b23 => ?_) (fun b23 => ?_)
      · refine mv_iconst (v := 0) d_TrustDeskModel_isWell_11 (by decide) ?_
        refine mv_iret d_TrustDeskModel_isWell_12 rfl (by decide) ?_
        refine mv_if_eq_t (tgt := 37) d_TrustDeskModel_product_8 (by decide) (by decide) ?_
        exact mv_vret d_TrustDeskModel_product_37 rfl ⟨_, I_16, rfl, kKR_16, kKE_16, (by have := kKR_16.1 15 _ _ rfl; have := kKR_16.1 16 _ _ rfl; have := kKR_16.1 19 _ _ rfl; have := kKE_16.f yS; omega), (by first | (have hX := e19.symm.trans (p_lp_stop (show (p_pr1 pb pn pa (p_op pb pn pa 0)) s17 = s17 from if_neg (fun h9 => by omega))); rw [show p_pro pb pn pa (p_op pb pn pa 0) ps = s17 from (by exact hX)]; exact Z918) | (exfalso; have := kKR_16.1 15 _ _ rfl; have := kKR_16.1 16 _ _ rfl; have := kKR_16.1 19 _ _ rfl; have := kKE_16.f yS; omega))⟩
      · refine mv_iconst (v := 1) d_TrustDeskModel_isWell_7 (by decide) ?_
        refine mv_goto (tgt := 12) d_TrustDeskModel_isWell_8 (by decide) ?_
        refine mv_iret d_TrustDeskModel_isWell_12 rfl (by decide) ?_
        refine mv_if_eq_f (tgt := 37) d_TrustDeskModel_product_8 (by decide) (by decide) ?_
        refine mv_aload_n d_TrustDeskModel_product_11 rfl rfl ?_
        refine mv_bipush (v := 42) d_TrustDeskModel_product_12 (by decide) ?_
        obtain ⟨_, b24, -⟩ := I_16.1 _ _ h_q0_16
        refine mv_callV (kc1 := 0) (ks1 := 0) (kc' := 0) (ks' := 0) (As := [.int 42]) (st9 := [.int 42, .ref o0]) d_TrustDeskModel_product_14 lV_TrustDeskModel_234 b24 rfl (mj_enter (by decide) (Nat.le_of_ble_eq_true rfl) ?_) rfl (Nat.le_of_ble_eq_true rfl) (Nat.le_of_ble_eq_true rfl) (Nat.le_of_ble_eq_true rfl) (hst := rfl) (fun _ _ _ h => h)
        refine mv_aload_n d_TrustDeskModel_isSign_0 rfl rfl ?_
        obtain ⟨v26, q25⟩ := tm_atI I_16 h_q0_16 (k := 17) rfl
        refine tr_getK q25 d_TrustDeskModel_isSign_1 f_TrustDeskModel_198_13 ?_
        have := tm_rv q25
        refine mv_iconst (v := 4) d_TrustDeskModel_isSign_4 (by decide) ?_
        have := mz_hi v26
        refine mv_icmp_neZ (tgt := 20) (a := v26.toInt) (b := 4) d_TrustDeskModel_isSign_5 (by decide) rfl (by decide) (fun b27 => ?_) (fun b27 => ?_)
        · refine mv_iconst (v := 0) d_TrustDeskModel_isSign_20 (by decide) ?_
          refine mv_iret d_TrustDeskModel_isSign_21 rfl (by decide) ?_
          refine mv_if_eq_t (tgt := 37) d_TrustDeskModel_product_17 (by decide) (by decide) ?_
          exact mv_vret d_TrustDeskModel_product_37 rfl ⟨_, I_16, rfl, kKR_16, kKE_16, (by have := kKR_16.1 15 _ _ rfl; have := kKR_16.1 16 _ _ rfl; have := kKR_16.1 19 _ _ rfl; have := kKE_16.f yS; omega), (by first | (have := Z918.n4 (by omega) (by omega); have hX := e19.symm.trans (p_lp_stop (show (p_pr1 pb pn pa (p_op pb pn pa 0)) s17 = s17 from if_neg (fun h9 => by omega))); rw [show p_pro pb pn pa (p_op pb pn pa 0) ps = s17 from (by exact hX)]; exact Z918) | (exfalso; have := kKR_16.1 15 _ _ rfl; have := kKR_16.1 16 _ _ rfl; have := kKR_16.1 19 _ _ rfl; have := kKE_16.f yS; omega))⟩
        · refine mv_aload_n d_TrustDeskModel_isSign_8 rfl rfl ?_
          obtain ⟨v29, q28⟩ := tm_atI I_16 h_q0_16 (k := 18) rfl
          refine tr_getK q28 d_TrustDeskModel_isSign_9 f_TrustDeskModel_201_13 ?_
          have := kKR_16.f (k := 18) q28 rfl
          have := tm_rv q28
          refine mv_iload_n d_TrustDeskModel_isSign_12 rfl rfl ?_
          have := mz_hi v29
          refine mv_icmp_neZ (tgt := 20) (a := v29.toInt) (b := 42) d_TrustDeskModel_isSign_13 (by decide) rfl (by decide) (fun b30 => ?_) (fun b30 => ?_)
          · refine mv_iconst (v := 0) d_TrustDeskModel_isSign_20 (by decide) ?_
            refine mv_iret d_TrustDeskModel_isSign_21 rfl (by decide) ?_
            refine mv_if_eq_t (tgt := 37) d_TrustDeskModel_product_17 (by decide) (by decide) ?_
            exact mv_vret d_TrustDeskModel_product_37 rfl ⟨_, I_16, rfl, kKR_16, kKE_16, (by have := kKR_16.1 15 _ _ rfl; have := kKR_16.1 16 _ _ rfl; have := kKR_16.1 19 _ _ rfl; have := kKE_16.f yS; omega), (by first | (have := Z918.s4 (by omega) (by omega); have hX := e19.symm.trans (p_lp_stop (show (p_pr1 pb pn pa (p_op pb pn pa 0)) s17 = s17 from if_neg (fun h9 => by omega))); rw [show p_pro pb pn pa (p_op pb pn pa 0) ps = s17 from (by exact hX)]; exact Z918) | (exfalso; have := kKR_16.1 15 _ _ rfl; have := kKR_16.1 16 _ _ rfl; have := kKR_16.1 19 _ _ rfl; have := kKE_16.f yS; omega))⟩
          · refine mv_iconst (v := 1) d_TrustDeskModel_isSign_16 (by decide) ?_
            refine mv_goto (tgt := 21) d_TrustDeskModel_isSign_17 (by decide) ?_
            refine mv_iret d_TrustDeskModel_isSign_21 rfl (by decide) ?_
            refine mv_if_eq_f (tgt := 37) d_TrustDeskModel_product_17 (by decide) (by decide) ?_
            refine mv_aload_n d_TrustDeskModel_product_20 rfl rfl ?_
            obtain ⟨_, b37, -⟩ := I_16.1 _ _ h_q0_16
            refine mv_callV (kc' := 0) (ks' := 0) (As := []) (st9 := [.ref o0]) d_TrustDeskModel_product_21 lV_TrustDeskModel_237 b37 rfl (tc_TrustDeskModel_next_x (d := (d + 5)) (x9 := x9) (o0 := o0) h_q0_16 kKR_16 Z918.p I_16.start) rfl (Nat.le_of_ble_eq_true rfl) (Nat.le_of_ble_eq_true rfl) (Nat.le_of_ble_eq_true rfl) (hst := rfl) (fun b31r M32 n33 b31 => ?_)
            obtain ⟨T34, J35, rfl, R38, f39, f40, f41⟩ := b31
            have I36 := I_16.call J35 (tm_sub (by decide)) (Or.inl rfl)
            have t42 := J35.up h_q0_16
            have z43 := (rv_c I_16 J35 (I_16.up h_o0) (k := 19) rfl)
            have z44 := (rv_c I_16 J35 (I_16.up h_o0) (k := 22) rfl)
            have h46 : rv M_16 o0 16 + 1 ≤ rv M_16 o0 15 := (by have := kKR_16.1 15 _ _ rfl; have := kKR_16.1 16 _ _ rfl; have := kKR_16.1 19 _ _ rfl; have := kKE_16.f yS; omega)
            have E45 : rE M0 M32 o0 1 1 := kKE_16.next f39 f40 (rv_c I_16 J35 (I_16.up h_o0) (k := 19) rfl) (rE_ha I_16 J35 (I_16.up h_o0) (by decide)) (e := 1) h46 (by decide)
            obtain ⟨s47, e48⟩ : ∃ s9 : p_S, p_nx s17 = s9 := ⟨_, rfl⟩
            rw [e48] at f41
            have := f41.w
            have q49 := J35.keep h_q0_16 (by decide) q21
            refine mv_aload_n d_TrustDeskModel_product_24 rfl rfl ?_
            obtain ⟨_, b56, -⟩ := I36.1 _ _ t42
            refine mv_callV (kc' := 0) (ks' := 0) (As := []) (st9 := [.ref o0]) d_TrustDeskModel_product_25 lV_TrustDeskModel_294 b56 rfl (tc_TrustDeskModel_factor_q1_x (d := d) (x9 := x9) (o0 := o0) t42 R38 E45.1 (by have := R38.1 15 _ _ rfl; have := R38.1 16 _ _ rfl; have := R38.1 19 _ _ rfl; have := E45.f yS; omega) (by have := R38.1 15 _ _ rfl; have := R38.1 16 _ _ rfl; have := R38.1 19 _ _ rfl; have := E45.f yS; omega) f41 I36.start) rfl (Nat.le_of_ble_eq_true rfl) (Nat.le_of_ble_eq_true rfl) (Nat.le_of_ble_eq_true rfl) (hst := rfl) (fun b50r M51 n52 b50 => ?_)
            obtain ⟨T53, J54, rfl, R57, f58, f59, f60⟩ := b50
            have I55 := I36.call J54 (tm_sub (by decide)) (Or.inl rfl)
            have t61 := J54.up t42
            have E62 : rE M0 M51 o0 2 1 := E45.trans f58 (by decide) (yR.2 5 _ _ rfl 44).1 (by decide) (by decide)
            have := f58.w
            obtain ⟨s63, e64⟩ : ∃ s9 : p_S, p_fac pb pn pa (p_op pb pn pa 0) s47 = s9 := ⟨_, rfl⟩
            rw [e64] at f60
            have := f60.w
            refine mv_aload_n d_TrustDeskModel_product_28 rfl rfl ?_
            refine mv_bipush (v := (-3)) d_TrustDeskModel_product_29 (by decide) ?_
            obtain ⟨_, b71, -⟩ := I55.1 _ _ t61
            have : ((-3) : Int32).toInt = (-3) := by decide
            refine mv_callV (kc' := 0) (ks' := 0) (As := [.int (-3)]) (st9 := [.int (-3), .ref o0]) d_TrustDeskModel_product_31 lV_TrustDeskModel_279 b71 rfl (tc_TrustDeskModel_emits_x (d := (d + 5)) (x9 := x9) (o0 := o0) (x1 := (-3)) t61 R57 (by have := R57.1 15 _ _ rfl; have := R57.1 16 _ _ rfl; have := R57.1 19 _ _ rfl; have := E62.f yS; omega) (by decide) I55.start) rfl (Nat.le_of_ble_eq_true rfl) (Nat.le_of_ble_eq_true rfl) (Nat.le_of_ble_eq_true rfl) (hst := rfl) (fun b65r M66 n67 b65 => ?_)
            obtain ⟨T68, J69, rfl, R72, f73⟩ := b65
            have I70 := I55.call J69 (tm_sub (by decide)) (Or.inl rfl)
            have t74 := J69.up t61
            have z75 := (rv_c I55 J69 (I55.up h_o0) (k := 16) rfl)
            have z76 := (rv_c I55 J69 (I55.up h_o0) (k := 17) rfl)
            have z77 := (rv_c I55 J69 (I55.up h_o0) (k := 19) rfl)
            have z78 := (rv_c I55 J69 (I55.up h_o0) (k := 22) rfl)
            have E79 : rE M0 M66 o0 1 0 := E62.emit f73 (rE_hv I55 J69 (I55.up h_o0) 15 19 (by decide)) (yR.2 5 _ _ rfl 44).1 (by decide) (Or.inr (Or.inr ⟨by decide, by decide, by decide, by decide⟩)) (by decide)
            have Z980 : pO M66 o0 pb pn pa s63 := f60.same (rE_hv I55 J69 (I55.up h_o0) 14 20 (by decide)) (rv_c I55 J69 (I55.up h_o0) (k := 23) rfl) (ra_call I55 J69 (I55.up h_o0) (k := 13) rfl rfl rfl)
            refine mv_goto (tgt := 4) d_TrustDeskModel_product_34 (by decide) ?_
            have T81 : ∃ s1 : p_S, pO M66 o0 pb pn pa s1 ∧ p_lp pn (p_pr1 pb pn pa (p_op pb pn pa 0)) s1 = p_pro pb pn pa (p_op pb pn pa 0) ps := ⟨s63, Z980, (by have st : (p_pr1 pb pn pa (p_op pb pn pa 0)) s17 = s63 := (by have := Z918.s4 (by omega) (by omega); rw [show (p_pr1 pb pn pa (p_op pb pn pa 0)) s17 = p_fac pb pn pa (p_op pb pn pa 0) (p_nx s17) from if_pos ⟨by omega, by omega⟩]; simp only [e48, e64]); rw [← st, p_P.go (p_pr1_P (p_op_M _)) s17]; exact e19)⟩
            exact (ih16 T68 M66 n67 I70 t74 (by have := R72.1 15 _ _ rfl; have := R72.1 16 _ _ rfl; have := R72.1 19 _ _ rfl; have := E79.f yS; first | omega | decide | exact fun h9 => absurd (by decide) h9) R72 E79 T81 (by have := R72.1 15 _ _ rfl; have := R72.1 16 _ _ rfl; have := R72.1 19 _ _ rfl; have := E79.f yS; omega))
  have T82 : ∃ s1 : p_S, pO M2 o0 pb pn pa s1 ∧ p_lp pn (p_pr1 pb pn pa (p_op pb pn pa 0)) s1 = p_pro pb pn pa (p_op pb pn pa 0) ps := ⟨s14, f11, (by rw [← e15]; rfl)⟩
  exact mv_less (Nat.zero_le _) (Nat.zero_le _) (L4_16 4294967296 T4 M2 n3 I6 t12 (by have := R8.1 15 _ _ rfl; have := R8.1 16 _ _ rfl; have := R8.1 19 _ _ rfl; have := E13.f yS; first | omega | decide | exact fun h9 => absurd (by decide) h9) R8 E13 T82 (by have := R8.1 15 _ _ rfl; have := R8.1 16 _ _ rfl; have := R8.1 19 _ _ rfl; have := E13.f yS; omega))
theorem d_TrustDeskModel_sum_11 : decode kY_TrustDeskModel_sum.2.1 11 = .ok (.aload_n 0, 1) := by decide +kernel
theorem d_TrustDeskModel_sum_12 : decode kY_TrustDeskModel_sum.2.1 12 = .ok (.bipush 43, 2) := by decide +kernel
theorem d_TrustDeskModel_sum_14 : decode kY_TrustDeskModel_sum.2.1 14 = .ok (.invokevirtual 234, 3) := by decide +kernel
theorem d_TrustDeskModel_sum_17 : decode kY_TrustDeskModel_sum.2.1 17 = .ok (.ifCond .ne 12, 3) := by decide +kernel
theorem d_TrustDeskModel_sum_20 : decode kY_TrustDeskModel_sum.2.1 20 = .ok (.aload_n 0, 1) := by decide +kernel
theorem d_TrustDeskModel_sum_21 : decode kY_TrustDeskModel_sum.2.1 21 = .ok (.bipush 45, 2) := by decide +kernel
theorem d_TrustDeskModel_sum_23 : decode kY_TrustDeskModel_sum.2.1 23 = .ok (.invokevirtual 234, 3) := by decide +kernel
theorem d_TrustDeskModel_sum_26 : decode kY_TrustDeskModel_sum.2.1 26 = .ok (.ifCond .eq 35, 3) := by decide +kernel
theorem d_TrustDeskModel_sum_29 : decode kY_TrustDeskModel_sum.2.1 29 = .ok (.aload_n 0, 1) := by decide +kernel
theorem d_TrustDeskModel_sum_30 : decode kY_TrustDeskModel_sum.2.1 30 = .ok (.bipush 43, 2) := by decide +kernel
theorem d_TrustDeskModel_sum_32 : decode kY_TrustDeskModel_sum.2.1 32 = .ok (.invokevirtual 234, 3) := by decide +kernel
theorem d_TrustDeskModel_sum_35 : decode kY_TrustDeskModel_sum.2.1 35 = .ok (.istore_n 1, 1) := by decide +kernel
theorem d_TrustDeskModel_sum_36 : decode kY_TrustDeskModel_sum.2.1 36 = .ok (.aload_n 0, 1) := by decide +kernel
theorem d_TrustDeskModel_sum_37 : decode kY_TrustDeskModel_sum.2.1 37 = .ok (.invokevirtual 237, 3) := by decide +kernel
theorem d_TrustDeskModel_sum_40 : decode kY_TrustDeskModel_sum.2.1 40 = .ok (.aload_n 0, 1) := by decide +kernel
theorem d_TrustDeskModel_sum_41 : decode kY_TrustDeskModel_sum.2.1 41 = .ok (.invokevirtual 297, 3) := by decide +kernel
theorem d_TrustDeskModel_sum_44 : decode kY_TrustDeskModel_sum.2.1 44 = .ok (.aload_n 0, 1) := by decide +kernel
theorem d_TrustDeskModel_sum_45 : decode kY_TrustDeskModel_sum.2.1 45 = .ok (.iload_n 1, 1) := by decide +kernel
theorem d_TrustDeskModel_sum_46 : decode kY_TrustDeskModel_sum.2.1 46 = .ok (.ifCond .eq 7, 3) := by decide +kernel
theorem d_TrustDeskModel_sum_53 : decode kY_TrustDeskModel_sum.2.1 53 = .ok (.bipush (-2), 2) := by decide +kernel
theorem d_TrustDeskModel_sum_55 : decode kY_TrustDeskModel_sum.2.1 55 = .ok (.invokevirtual 279, 3) := by decide +kernel
theorem d_TrustDeskModel_sum_58 : decode kY_TrustDeskModel_sum.2.1 58 = .ok (.goto (-54), 3) := by decide +kernel
theorem d_TrustDeskModel_sum_49 : decode kY_TrustDeskModel_sum.2.1 49 = .ok (.iconst (-1), 1) := by decide +kernel
theorem d_TrustDeskModel_sum_50 : decode kY_TrustDeskModel_sum.2.1 50 = .ok (.goto 5, 3) := by decide +kernel
def w_TrustDeskModel_sum_q1_x : List Nat := [1315, 1316, 1317, 1318, 1319, 1320, 1322, 20004, 20005]
set_option maxHeartbeats 100000000 in theorem tc_TrustDeskModel_sum_q1_x {g : mj_G} {l : Launch} {d : Nat} {T0 : tm_H} {M0 : mj_M} {n0 x9 : Nat} {o0 : Nat} (h_o0 : T0 o0 = some (0, 13, 0)) (yR : rI M0 o0) (yT : rT M0 o0) (yS : rv M0 o0 19 = 0 → ra M0 o0 5 44 ≤ rv M0 o0 16) (yL : rv M0 o0 19 ≠ 0 ∨ (4 ≤ rv M0 o0 22 ∧ rv M0 o0 22 ≤ 4)) {pb : Nat → Int} {pn : Nat} {pa : Int} {ps : p_S} (yO : pO M0 o0 pb pn pa ps) (I0 : tm_I tm_FT (tm_in w_TrustDeskModel_sum_q1_x) x9 T0 M0 n0 T0 M0 n0) : mj_Met g l kY_TrustDeskModel_sum (d + 8) [.ref o0] M0 n0 0 0 (tm_Q tm_FT (tm_in w_TrustDeskModel_sum_q1_x) x9 T0 M0 n0 (fun r _ M => r = none ∧ rI M o0 ∧ (rE M0 M o0 1 0) ∧ (rv M o0 19 = 0 → rv M o0 22 = rv M0 o0 22) ∧ (pO M o0 pb pn pa (p_sum pb pn pa (p_op pb pn pa 0) ps)))) := by
  refine mj_enter (by decide) (Nat.le_of_ble_eq_true rfl) ?_
  have yE0 := rE.rf yT
  have := yO.w
  refine mv_aload_n d_TrustDeskModel_sum_0 rfl rfl ?_
  obtain ⟨_, b7, -⟩ := I0.1 _ _ h_o0
  refine mv_callV (kc' := 0) (ks' := 0) (As := []) (st9 := [.ref o0]) d_TrustDeskModel_sum_1 lV_TrustDeskModel_297 b7 rfl (tc_TrustDeskModel_product_q1_x (d := d) (x9 := x9) (o0 := o0) h_o0 yR yE0.1 (by have := yR.1 15 _ _ rfl; have := yR.1 16 _ _ rfl; have := yR.1 19 _ _ rfl; have := yE0.f yS; omega) (by have := yR.1 15 _ _ rfl; have := yR.1 16 _ _ rfl; have := yR.1 19 _ _ rfl; have := yE0.f yS; omega) yO I0.start) rfl (Nat.le_of_ble_eq_true rfl) (Nat.le_of_ble_eq_true rfl) (Nat.le_of_ble_eq_true rfl) (hst := rfl) (fun b1r M2 n3 b1 => ?_)
  obtain ⟨T4, J5, rfl, R8, f9, f10, f11⟩ := b1
  have I6 := I0.call J5 (tm_sub (by decide)) (Or.inl rfl)
  have t12 := J5.up h_o0
  have E13 : rE M0 M2 o0 1 0 := yE0.trans f9 (by decide) (yR.2 5 _ _ rfl 44).1 (by decide) (by decide)
  have := f9.w
  obtain ⟨s14, e15⟩ : ∃ s9 : p_S, p_pro pb pn pa (p_op pb pn pa 0) ps = s9 := ⟨_, rfl⟩
  rw [e15] at f11
  have := f11.w
  have L4_16 : ∀ (k : Nat) (T_16 : tm_H) (M_16 : mj_M) (n_16 : Nat), tm_I tm_FT (tm_in w_TrustDeskModel_sum_q1_x) x9 T0 M0 n0 T_16 M_16 n_16 → T_16 o0 = some (0, 13, 0) → (rv M_16 o0 19 = 0 → rv M_16 o0 22 = rv M0 o0 22) → (rI M_16 o0) → (rE M0 M_16 o0 1 0) → (∃ s1 : p_S, pO M_16 o0 pb pn pa s1 ∧ p_lp pn (p_su1 pb pn pa (p_op pb pn pa 0)) s1 = p_sum pb pn pa (p_op pb pn pa 0) ps) → 5 * (401 - rv M_16 o0 16) - rv M_16 o0 19 < (k : Int) → mj_V g l kY_TrustDeskModel_sum (d + 8) 4 [(0, .ref o0)] [] M_16 n_16 0 0 (tm_Q tm_FT (tm_in w_TrustDeskModel_sum_q1_x) x9 T0 M0 n0 (fun r _ M => r = none ∧ rI M o0 ∧ (rE M0 M o0 1 0) ∧ (rv M o0 19 = 0 → rv M o0 22 = rv M0 o0 22) ∧ (pO M o0 pb pn pa (p_sum pb pn pa (p_op pb pn pa 0) ps)))) := by
    intro k16
    induction k16 with
    | zero =>
      intro T_16 M_16 n_16 I_16 h_q0_16 iv0_16 kKR_16 kKE_16 kKT9_16 hk16
      have := kKR_16.1 15 _ _ rfl
      have := kKR_16.1 16 _ _ rfl
      have := kKR_16.1 19 _ _ rfl
      exfalso; omega
    | succ k16 ih16 =>
      intro T_16 M_16 n_16 I_16 h_q0_16 iv0_16 kKR_16 kKE_16 kKT9_16 hk16
      have := kKE_16.f yS
      obtain ⟨s17, Z918, e19⟩ := kKT9_16
      have := Z918.w
      refine mv_aload_n d_TrustDeskModel_sum_4 rfl rfl ?_
      obtain ⟨_, b20, -⟩ := I_16.1 _ _ h_q0_16
      refine mv_callV (kc1 := 0) (ks1 := 0) (kc' := 0) (ks' := 0) (As := []) (st9 := [.ref o0]) d_TrustDeskModel_sum_5 lV_TrustDeskModel_230 b20 rfl (mj_enter (by decide) (Nat.le_of_ble_eq_true rfl) ?_) rfl (Nat.le_of_ble_eq_true rfl) (Nat.le_of_ble_eq_true rfl) (Nat.le_of_ble_eq_true rfl) (hst := rfl) (fun _ _ _ h => h)
      refine mv_aload_n d_TrustDeskModel_isWell_0 rfl rfl ?_
      obtain ⟨v22, q21⟩ := tm_atI I_16 h_q0_16 (k := 19) rfl
      refine tr_getK q21 d_TrustDeskModel_isWell_1 f_TrustDeskModel_224_13 ?_
      have := kKR_16.f (k := 19) q21 rfl
      have := tm_rv q21
      have := mz_hi v22
      refine mv_if_neZ (tgt := 11) (a := v22.toInt) d_TrustDeskModel_isWell_4 (by decide) rfl (fun b23 => ?_) (fun b23 => ?_)
      · refine mv_iconst (v := 0) d_TrustDeskModel_isWell_11 (by decide) ?_
        refine mv_iret d_TrustDeskModel_isWell_12 rfl (by decide) ?_
        refine mv_if_eq_t (tgt := 61) d_TrustDeskModel_sum_8 (by decide) (by decide) ?_
        exact mv_vret d_TrustDeskModel_sum_61 rfl ⟨_, I_16, rfl, kKR_16, kKE_16, (by have := kKR_16.1 15 _ _ rfl; have := kKR_16.1 16 _ _ rfl; have := kKR_16.1 19 _ _ rfl; have := kKE_16.f yS; omega), (by first | (have hX := e19.symm.trans (p_lp_stop (show (p_su1 pb pn pa (p_op pb pn pa 0)) s17 = s17 from if_neg (fun h9 => by omega))); rw [show p_sum pb pn pa (p_op pb pn pa 0) ps = s17 from (by exact hX)]; exact Z918) | (exfalso; have := kKR_16.1 15 _ _ rfl; have := kKR_16.1 16 _ _ rfl; have := kKR_16.1 19 _ _ rfl; have := kKE_16.f yS; omega))⟩
      · refine mv_iconst (v := 1) d_TrustDeskModel_isWell_7 (by decide) ?_
        refine mv_goto (tgt := 12) d_TrustDeskModel_isWell_8 (by decide) ?_
        refine mv_iret d_TrustDeskModel_isWell_12 rfl (by decide) ?_
        refine mv_if_eq_f (tgt := 61) d_TrustDeskModel_sum_8 (by decide) (by decide) ?_
        refine mv_aload_n d_TrustDeskModel_sum_11 rfl rfl ?_
        refine mv_bipush (v := 43) d_TrustDeskModel_sum_12 (by decide) ?_
        obtain ⟨_, b24, -⟩ := I_16.1 _ _ h_q0_16
        refine mv_callV (kc1 := 0) (ks1 := 0) (kc' := 0) (ks' := 0) (As := [.int 43]) (st9 := [.int 43, .ref o0]) d_TrustDeskModel_sum_14 lV_TrustDeskModel_234 b24 rfl (mj_enter (by decide) (Nat.le_of_ble_eq_true rfl) ?_) rfl (Nat.le_of_ble_eq_true rfl) (Nat.le_of_ble_eq_true rfl) (Nat.le_of_ble_eq_true rfl) (hst := rfl) (fun _ _ _ h => h)
        refine mv_aload_n d_TrustDeskModel_isSign_0 rfl rfl ?_
        obtain ⟨v26, q25⟩ := tm_atI I_16 h_q0_16 (k := 17) rfl
        refine tr_getK q25 d_TrustDeskModel_isSign_1 f_TrustDeskModel_198_13 ?_
        have := tm_rv q25
        refine mv_iconst (v := 4) d_TrustDeskModel_isSign_4 (by decide) ?_
        have := mz_hi v26
        refine mv_icmp_neZ (tgt := 20) (a := v26.toInt) (b := 4) d_TrustDeskModel_isSign_5 (by decide) rfl (by decide) (fun b27 => ?_) (fun b27 => ?_)
        · refine mv_iconst (v := 0) d_TrustDeskModel_isSign_20 (by decide) ?_
          refine mv_iret d_TrustDeskModel_isSign_21 rfl (by decide) ?_
          refine mv_if_ne_f (tgt := 29) d_TrustDeskModel_sum_17 (by decide) (by decide) ?_
          refine mv_aload_n d_TrustDeskModel_sum_20 rfl rfl ?_
          refine mv_bipush (v := 45) d_TrustDeskModel_sum_21 (by decide) ?_
          obtain ⟨_, b28, -⟩ := I_16.1 _ _ h_q0_16
          refine mv_callV (kc1 := 0) (ks1 := 0) (kc' := 0) (ks' := 0) (As := [.int 45]) (st9 := [.int 45, .ref o0]) d_TrustDeskModel_sum_23 lV_TrustDeskModel_234 b28 rfl (mj_enter (by decide) (Nat.le_of_ble_eq_true rfl) ?_) rfl (Nat.le_of_ble_eq_true rfl) (Nat.le_of_ble_eq_true rfl) (Nat.le_of_ble_eq_true rfl) (hst := rfl) (fun _ _ _ h => h)
          refine mv_aload_n d_TrustDeskModel_isSign_0 rfl rfl ?_
          refine tr_getK (k := 17) q25 d_TrustDeskModel_isSign_1 f_TrustDeskModel_198_13 ?_
          refine mv_iconst (v := 4) d_TrustDeskModel_isSign_4 (by decide) ?_
          have := mz_hi v26
          refine mv_icmp_neZ (tgt := 20) (a := v26.toInt) (b := 4) d_TrustDeskModel_isSign_5 (by decide) rfl (by decide) (fun b29 => ?_) (fun b29 => absurd b29 (by omega))
          refine mv_iconst (v := 0) d_TrustDeskModel_isSign_20 (by decide) ?_
          refine mv_iret d_TrustDeskModel_isSign_21 rfl (by decide) ?_
          refine mv_if_eq_t (tgt := 61) d_TrustDeskModel_sum_26 (by decide) (by decide) ?_
          exact mv_vret d_TrustDeskModel_sum_61 rfl ⟨_, I_16, rfl, kKR_16, kKE_16, (by have := kKR_16.1 15 _ _ rfl; have := kKR_16.1 16 _ _ rfl; have := kKR_16.1 19 _ _ rfl; have := kKE_16.f yS; omega), (by first | (have := Z918.n4 (by omega) (by omega); have hX := e19.symm.trans (p_lp_stop (show (p_su1 pb pn pa (p_op pb pn pa 0)) s17 = s17 from if_neg (fun h9 => by omega))); rw [show p_sum pb pn pa (p_op pb pn pa 0) ps = s17 from (by exact hX)]; exact Z918) | (exfalso; have := kKR_16.1 15 _ _ rfl; have := kKR_16.1 16 _ _ rfl; have := kKR_16.1 19 _ _ rfl; have := kKE_16.f yS; omega))⟩
        · refine mv_aload_n d_TrustDeskModel_isSign_8 rfl rfl ?_
          obtain ⟨v31, q30⟩ := tm_atI I_16 h_q0_16 (k := 18) rfl
          refine tr_getK q30 d_TrustDeskModel_isSign_9 f_TrustDeskModel_201_13 ?_
          have := kKR_16.f (k := 18) q30 rfl
          have := tm_rv q30
          refine mv_iload_n d_TrustDeskModel_isSign_12 rfl rfl ?_
          have := mz_hi v31
          refine mv_icmp_neZ (tgt := 20) (a := v31.toInt) (b := 43) d_TrustDeskModel_isSign_13 (by decide) rfl (by decide) (fun b32 => ?_) (fun b32 => ?_)
          · refine mv_iconst (v := 0) d_TrustDeskModel_isSign_20 (by decide) ?_
            refine mv_iret d_TrustDeskModel_isSign_21 rfl (by decide) ?_
            refine mv_if_ne_f (tgt := 29) d_TrustDeskModel_sum_17 (by decide) (by decide) ?_
            refine mv_aload_n d_TrustDeskModel_sum_20 rfl rfl ?_
            refine mv_bipush (v := 45) d_TrustDeskModel_sum_21 (by decide) ?_
            obtain ⟨_, b33, -⟩ := I_16.1 _ _ h_q0_16
            refine mv_callV (kc1 := 0) (ks1 := 0) (kc' := 0) (ks' := 0) (As := [.int 45]) (st9 := [.int 45, .ref o0]) d_TrustDeskModel_sum_23 lV_TrustDeskModel_234 b33 rfl (mj_enter (by decide) (Nat.le_of_ble_eq_true rfl) ?_) rfl (Nat.le_of_ble_eq_true rfl) (Nat.le_of_ble_eq_true rfl) (Nat.le_of_ble_eq_true rfl) (hst := rfl) (fun _ _ _ h => h)
            refine mv_aload_n d_TrustDeskModel_isSign_0 rfl rfl ?_
            refine tr_getK (k := 17) q25 d_TrustDeskModel_isSign_1 f_TrustDeskModel_198_13 ?_
            refine mv_iconst (v := 4) d_TrustDeskModel_isSign_4 (by decide) ?_
            have := mz_hi v26
            refine mv_icmp_neZ (tgt := 20) (a := v26.toInt) (b := 4) d_TrustDeskModel_isSign_5 (by decide) rfl (by decide) (fun b34 => absurd b34 (by omega)) (fun b34 => ?_)
            refine mv_aload_n d_TrustDeskModel_isSign_8 rfl rfl ?_
            refine tr_getK (k := 18) q30 d_TrustDeskModel_isSign_9 f_TrustDeskModel_201_13 ?_
            refine mv_iload_n d_TrustDeskModel_isSign_12 rfl rfl ?_
            have := mz_hi v31
            refine mv_icmp_neZ (tgt := 20) (a := v31.toInt) (b := 45) d_TrustDeskModel_isSign_13 (by decide) rfl (by decide) (fun b35 => ?_) (fun b35 => ?_)
            · refine mv_iconst (v := 0) d_TrustDeskModel_isSign_20 (by decide) ?_
              refine mv_iret d_TrustDeskModel_isSign_21 rfl (by decide) ?_
              refine mv_if_eq_t (tgt := 61) d_TrustDeskModel_sum_26 (by decide) (by decide) ?_
              exact mv_vret d_TrustDeskModel_sum_61 rfl ⟨_, I_16, rfl, kKR_16, kKE_16, (by have := kKR_16.1 15 _ _ rfl; have := kKR_16.1 16 _ _ rfl; have := kKR_16.1 19 _ _ rfl; have := kKE_16.f yS; omega), (by first | (have := Z918.s4 (by omega) (by omega); have hX := e19.symm.trans (p_lp_stop (show (p_su1 pb pn pa (p_op pb pn pa 0)) s17 = s17 from if_neg (fun h9 => by omega))); rw [show p_sum pb pn pa (p_op pb pn pa 0) ps = s17 from (by exact hX)]; exact Z918) | (exfalso; have := kKR_16.1 15 _ _ rfl; have := kKR_16.1 16 _ _ rfl; have := kKR_16.1 19 _ _ rfl; have := kKE_16.f yS; omega))⟩
            · refine mv_iconst (v := 1) d_TrustDeskModel_isSign_16 (by decide) ?_
              refine mv_goto (tgt := 21) d_TrustDeskModel_isSign_17 (by decide) ?_
              refine mv_iret d_TrustDeskModel_isSign_21 rfl (by decide) ?_
              refine mv_if_eq_f (tgt := 61) d_TrustDeskModel_sum_26 (by decide) (by decide) ?_
              refine mv_aload_n d_TrustDeskModel_sum_29 rfl rfl ?_
              refine mv_bipush (v := 43) d_TrustDeskModel_sum_30 (by decide) ?_
              obtain ⟨_, b36, -⟩ := I_16.1 _ _ h_q0_16
              refine mv_callV (kc1 := 0) (ks1 := 0) (kc' := 0) (ks' := 0) (As := [.int 43]) (st9 := [.int 43, .ref o0]) d_TrustDeskModel_sum_32 lV_TrustDeskModel_234 b36 rfl (mj_enter (by decide) (Nat.le_of_ble_eq_true rfl) ?_) rfl (Nat.le_of_ble_eq_true rfl) (Nat.le_of_ble_eq_true rfl) (Nat.le_of_ble_eq_true rfl) (hst := rfl) (fun _ _ _ h => h)
              refine mv_aload_n d_TrustDeskModel_isSign_0 rfl rfl ?_
              refine tr_getK (k := 17) q25 d_TrustDeskModel_isSign_1 f_TrustDeskModel_198_13 ?_
              refine mv_iconst (v := 4) d_TrustDeskModel_isSign_4 (by decide) ?_
              have := mz_hi v26
              refine mv_icmp_neZ (tgt := 20) (a := v26.toInt) (b := 4) d_TrustDeskModel_isSign_5 (by decide) rfl (by decide) (fun b37 => absurd b37 (by omega)) (fun b37 => ?_)
              refine mv_aload_n d_TrustDeskModel_isSign_8 rfl rfl ?_
              refine tr_getK (k := 18) q30 d_TrustDeskModel_isSign_9 f_TrustDeskModel_201_13 ?_
              refine mv_iload_n d_TrustDeskModel_isSign_12 rfl rfl ?_
              have := mz_hi v31
              refine mv_icmp_neZ (tgt := 20) (a := v31.toInt) (b := 43) d_TrustDeskModel_isSign_13 (by decide) rfl (by decide) (fun b38 => ?_) (fun b38 => absurd b38 (by omega))
              refine mv_iconst (v := 0) d_TrustDeskModel_isSign_20 (by decide) ?_
              refine mv_iret d_TrustDeskModel_isSign_21 rfl (by decide) ?_
              refine mv_istore_n (lv' := [(1, .int 0), (0, .ref o0)]) d_TrustDeskModel_sum_35 rfl (by decide) rfl ?_
              refine mv_aload_n d_TrustDeskModel_sum_36 rfl rfl ?_
              obtain ⟨_, b45, -⟩ := I_16.1 _ _ h_q0_16
              refine mv_callV (kc' := 0) (ks' := 0) (As := []) (st9 := [.ref o0]) d_TrustDeskModel_sum_37 lV_TrustDeskModel_237 b45 rfl (tc_TrustDeskModel_next_x (d := (d + 6)) (x9 := x9) (o0 := o0) h_q0_16 kKR_16 Z918.p I_16.start) rfl (Nat.le_of_ble_eq_true rfl) (Nat.le_of_ble_eq_true rfl) (Nat.le_of_ble_eq_true rfl) (hst := rfl) (fun b39r M40 n41 b39 => ?_)
              obtain ⟨T42, J43, rfl, R46, f47, f48, f49⟩ := b39
              have I44 := I_16.call J43 (tm_sub (by decide)) (Or.inl rfl)
              have t50 := J43.up h_q0_16
              have z51 := (rv_c I_16 J43 (I_16.up h_o0) (k := 19) rfl)
              have z52 := (rv_c I_16 J43 (I_16.up h_o0) (k := 22) rfl)
              have h54 : rv M_16 o0 16 + 1 ≤ rv M_16 o0 15 := (by have := kKR_16.1 15 _ _ rfl; have := kKR_16.1 16 _ _ rfl; have := kKR_16.1 19 _ _ rfl; have := kKE_16.f yS; omega)
              have E53 : rE M0 M40 o0 1 1 := kKE_16.next f47 f48 (rv_c I_16 J43 (I_16.up h_o0) (k := 19) rfl) (rE_ha I_16 J43 (I_16.up h_o0) (by decide)) (e := 1) h54 (by decide)
              obtain ⟨s55, e56⟩ : ∃ s9 : p_S, p_nx s17 = s9 := ⟨_, rfl⟩
              rw [e56] at f49
              have := f49.w
              have q57 := J43.keep h_q0_16 (by decide) q21
              refine mv_aload_n d_TrustDeskModel_sum_40 rfl rfl ?_
              obtain ⟨_, b64, -⟩ := I44.1 _ _ t50
              refine mv_callV (kc' := 0) (ks' := 0) (As := []) (st9 := [.ref o0]) d_TrustDeskModel_sum_41 lV_TrustDeskModel_297 b64 rfl (tc_TrustDeskModel_product_q1_x (d := d) (x9 := x9) (o0 := o0) t50 R46 E53.1 (by have := R46.1 15 _ _ rfl; have := R46.1 16 _ _ rfl; have := R46.1 19 _ _ rfl; have := E53.f yS; omega) (by have := R46.1 15 _ _ rfl; have := R46.1 16 _ _ rfl; have := R46.1 19 _ _ rfl; have := E53.f yS; omega) f49 I44.start) rfl (Nat.le_of_ble_eq_true rfl) (Nat.le_of_ble_eq_true rfl) (Nat.le_of_ble_eq_true rfl) (hst := rfl) (fun b58r M59 n60 b58 => ?_)
              obtain ⟨T61, J62, rfl, R65, f66, f67, f68⟩ := b58
              have I63 := I44.call J62 (tm_sub (by decide)) (Or.inl rfl)
              have t69 := J62.up t50
              have E70 : rE M0 M59 o0 2 1 := E53.trans f66 (by decide) (yR.2 5 _ _ rfl 44).1 (by decide) (by decide)
              have := f66.w
              obtain ⟨s71, e72⟩ : ∃ s9 : p_S, p_pro pb pn pa (p_op pb pn pa 0) s55 = s9 := ⟨_, rfl⟩
              rw [e72] at f68
              have := f68.w
              refine mv_aload_n d_TrustDeskModel_sum_44 rfl rfl ?_
              refine mv_iload_n d_TrustDeskModel_sum_45 rfl rfl ?_
              refine mv_if_eq_t (tgt := 53) d_TrustDeskModel_sum_46 (by decide) (by decide) ?_
              refine mv_bipush (v := (-2)) d_TrustDeskModel_sum_53 (by decide) ?_
              obtain ⟨_, b79, -⟩ := I63.1 _ _ t69
              have : ((-2) : Int32).toInt = (-2) := by decide
              refine mv_callV (kc' := 0) (ks' := 0) (As := [.int (-2)]) (st9 := [.int (-2), .ref o0]) d_TrustDeskModel_sum_55 lV_TrustDeskModel_279 b79 rfl (tc_TrustDeskModel_emits_x (d := (d + 6)) (x9 := x9) (o0 := o0) (x1 := (-2)) t69 R65 (by have := R65.1 15 _ _ rfl; have := R65.1 16 _ _ rfl; have := R65.1 19 _ _ rfl; have := E70.f yS; omega) (by decide) I63.start) rfl (Nat.le_of_ble_eq_true rfl) (Nat.le_of_ble_eq_true rfl) (Nat.le_of_ble_eq_true rfl) (hst := rfl) (fun b73r M74 n75 b73 => ?_)
              obtain ⟨T76, J77, rfl, R80, f81⟩ := b73
              have I78 := I63.call J77 (tm_sub (by decide)) (Or.inl rfl)
              have t82 := J77.up t69
              have z83 := (rv_c I63 J77 (I63.up h_o0) (k := 16) rfl)
              have z84 := (rv_c I63 J77 (I63.up h_o0) (k := 17) rfl)
              have z85 := (rv_c I63 J77 (I63.up h_o0) (k := 19) rfl)
              have z86 := (rv_c I63 J77 (I63.up h_o0) (k := 22) rfl)
              have E87 : rE M0 M74 o0 1 0 := E70.emit f81 (rE_hv I63 J77 (I63.up h_o0) 15 19 (by decide)) (yR.2 5 _ _ rfl 44).1 (by decide) (Or.inr (Or.inr ⟨by decide, by decide, by decide, by decide⟩)) (by decide)
              have Z988 : pO M74 o0 pb pn pa s71 := f68.same (rE_hv I63 J77 (I63.up h_o0) 14 20 (by decide)) (rv_c I63 J77 (I63.up h_o0) (k := 23) rfl) (ra_call I63 J77 (I63.up h_o0) (k := 13) rfl rfl rfl)
              refine mv_goto (tgt := 4) d_TrustDeskModel_sum_58 (by decide) ?_
              have T89 : ∃ s1 : p_S, pO M74 o0 pb pn pa s1 ∧ p_lp pn (p_su1 pb pn pa (p_op pb pn pa 0)) s1 = p_sum pb pn pa (p_op pb pn pa 0) ps := ⟨s71, Z988, (by have st : (p_su1 pb pn pa (p_op pb pn pa 0)) s17 = s71 := (by have := Z918.s4 (by omega) (by omega); rw [show (p_su1 pb pn pa (p_op pb pn pa 0)) s17 = p_pro pb pn pa (p_op pb pn pa 0) (p_nx s17) from if_pos ⟨by omega, by omega⟩]; simp only [e56, e72]); rw [← st, p_P.go (p_su1_P (p_op_M _)) s17]; exact e19)⟩
              refine mv_locals (lv' := [(0, .ref o0)]) (by intro q hq; simp only [List.mem_cons, List.not_mem_nil, or_false] at hq; rcases hq with rfl <;> rfl) ?_
              exact (ih16 T76 M74 n75 I78 t82 (by have := R80.1 15 _ _ rfl; have := R80.1 16 _ _ rfl; have := R80.1 19 _ _ rfl; have := E87.f yS; first | omega | decide | exact fun h9 => absurd (by decide) h9) R80 E87 T89 (by have := R80.1 15 _ _ rfl; have := R80.1 16 _ _ rfl; have := R80.1 19 _ _ rfl; have := E87.f yS; omega))
          · refine mv_iconst (v := 1) d_TrustDeskModel_isSign_16 (by decide) ?_
            refine mv_goto (tgt := 21) d_TrustDeskModel_isSign_17 (by decide) ?_
            refine mv_iret d_TrustDeskModel_isSign_21 rfl (by decide) ?_
            refine mv_if_ne_t (tgt := 29) d_TrustDeskModel_sum_17 (by decide) (by decide) ?_
            refine mv_aload_n d_TrustDeskModel_sum_29 rfl rfl ?_
            refine mv_bipush (v := 43) d_TrustDeskModel_sum_30 (by decide) ?_
            obtain ⟨_, b90, -⟩ := I_16.1 _ _ h_q0_16
            refine mv_callV (kc1 := 0) (ks1 := 0) (kc' := 0) (ks' := 0) (As := [.int 43]) (st9 := [.int 43, .ref o0]) d_TrustDeskModel_sum_32 lV_TrustDeskModel_234 b90 rfl (mj_enter (by decide) (Nat.le_of_ble_eq_true rfl) ?_) rfl (Nat.le_of_ble_eq_true rfl) (Nat.le_of_ble_eq_true rfl) (Nat.le_of_ble_eq_true rfl) (hst := rfl) (fun _ _ _ h => h)
            refine mv_aload_n d_TrustDeskModel_isSign_0 rfl rfl ?_
            refine tr_getK (k := 17) q25 d_TrustDeskModel_isSign_1 f_TrustDeskModel_198_13 ?_
            refine mv_iconst (v := 4) d_TrustDeskModel_isSign_4 (by decide) ?_
            have := mz_hi v26
            refine mv_icmp_neZ (tgt := 20) (a := v26.toInt) (b := 4) d_TrustDeskModel_isSign_5 (by decide) rfl (by decide) (fun b91 => absurd b91 (by omega)) (fun b91 => ?_)
            refine mv_aload_n d_TrustDeskModel_isSign_8 rfl rfl ?_
            refine tr_getK (k := 18) q30 d_TrustDeskModel_isSign_9 f_TrustDeskModel_201_13 ?_
            refine mv_iload_n d_TrustDeskModel_isSign_12 rfl rfl ?_
            have := mz_hi v31
            refine mv_icmp_neZ (tgt := 20) (a := v31.toInt) (b := 43) d_TrustDeskModel_isSign_13 (by decide) rfl (by decide) (fun b92 => absurd b92 (by omega)) (fun b92 => ?_)
            refine mv_iconst (v := 1) d_TrustDeskModel_isSign_16 (by decide) ?_
            refine mv_goto (tgt := 21) d_TrustDeskModel_isSign_17 (by decide) ?_
            refine mv_iret d_TrustDeskModel_isSign_21 rfl (by decide) ?_
            refine mv_istore_n (lv' := [(1, .int 1), (0, .ref o0)]) d_TrustDeskModel_sum_35 rfl (by decide) rfl ?_
            refine mv_aload_n d_TrustDeskModel_sum_36 rfl rfl ?_
            obtain ⟨_, b99, -⟩ := I_16.1 _ _ h_q0_16
            refine mv_callV (kc' := 0) (ks' := 0) (As := []) (st9 := [.ref o0]) d_TrustDeskModel_sum_37 lV_TrustDeskModel_237 b99 rfl (tc_TrustDeskModel_next_x (d := (d + 6)) (x9 := x9) (o0 := o0) h_q0_16 kKR_16 Z918.p I_16.start) rfl (Nat.le_of_ble_eq_true rfl) (Nat.le_of_ble_eq_true rfl) (Nat.le_of_ble_eq_true rfl) (hst := rfl) (fun b93r M94 n95 b93 => ?_)
            obtain ⟨T96, J97, rfl, R100, f101, f102, f103⟩ := b93
            have I98 := I_16.call J97 (tm_sub (by decide)) (Or.inl rfl)
            have t104 := J97.up h_q0_16
            have z105 := (rv_c I_16 J97 (I_16.up h_o0) (k := 19) rfl)
            have z106 := (rv_c I_16 J97 (I_16.up h_o0) (k := 22) rfl)
            have h108 : rv M_16 o0 16 + 1 ≤ rv M_16 o0 15 := (by have := kKR_16.1 15 _ _ rfl; have := kKR_16.1 16 _ _ rfl; have := kKR_16.1 19 _ _ rfl; have := kKE_16.f yS; omega)
            have E107 : rE M0 M94 o0 1 1 := kKE_16.next f101 f102 (rv_c I_16 J97 (I_16.up h_o0) (k := 19) rfl) (rE_ha I_16 J97 (I_16.up h_o0) (by decide)) (e := 1) h108 (by decide)
            obtain ⟨s109, e110⟩ : ∃ s9 : p_S, p_nx s17 = s9 := ⟨_, rfl⟩
            rw [e110] at f103
            have := f103.w
            have q111 := J97.keep h_q0_16 (by decide) q21
            refine mv_aload_n d_TrustDeskModel_sum_40 rfl rfl ?_
            obtain ⟨_, b118, -⟩ := I98.1 _ _ t104
            refine mv_callV (kc' := 0) (ks' := 0) (As := []) (st9 := [.ref o0]) d_TrustDeskModel_sum_41 lV_TrustDeskModel_297 b118 rfl (tc_TrustDeskModel_product_q1_x (d := d) (x9 := x9) (o0 := o0) t104 R100 E107.1 (by have := R100.1 15 _ _ rfl; have := R100.1 16 _ _ rfl; have := R100.1 19 _ _ rfl; have := E107.f yS; omega) (by have := R100.1 15 _ _ rfl; have := R100.1 16 _ _ rfl; have := R100.1 19 _ _ rfl; have := E107.f yS; omega) f103 I98.start) rfl (Nat.le_of_ble_eq_true rfl) (Nat.le_of_ble_eq_true rfl) (Nat.le_of_ble_eq_true rfl) (hst := rfl) (fun b112r M113 n114 b112 => ?_)
            obtain ⟨T115, J116, rfl, R119, f120, f121, f122⟩ := b112
            have I117 := I98.call J116 (tm_sub (by decide)) (Or.inl rfl)
            have t123 := J116.up t104
            have E124 : rE M0 M113 o0 2 1 := E107.trans f120 (by decide) (yR.2 5 _ _ rfl 44).1 (by decide) (by decide)
            have := f120.w
            obtain ⟨s125, e126⟩ : ∃ s9 : p_S, p_pro pb pn pa (p_op pb pn pa 0) s109 = s9 := ⟨_, rfl⟩
            rw [e126] at f122
            have := f122.w
            refine mv_aload_n d_TrustDeskModel_sum_44 rfl rfl ?_
            refine mv_iload_n d_TrustDeskModel_sum_45 rfl rfl ?_
            refine mv_if_eq_f (tgt := 53) d_TrustDeskModel_sum_46 (by decide) (by decide) ?_
            refine mv_iconst (v := (-1)) d_TrustDeskModel_sum_49 (by decide) ?_
            refine mv_goto (tgt := 55) d_TrustDeskModel_sum_50 (by decide) ?_
            obtain ⟨_, b133, -⟩ := I117.1 _ _ t123
            have : ((-1) : Int32).toInt = (-1) := by decide
            refine mv_callV (kc' := 0) (ks' := 0) (As := [.int (-1)]) (st9 := [.int (-1), .ref o0]) d_TrustDeskModel_sum_55 lV_TrustDeskModel_279 b133 rfl (tc_TrustDeskModel_emits_x (d := (d + 6)) (x9 := x9) (o0 := o0) (x1 := (-1)) t123 R119 (by have := R119.1 15 _ _ rfl; have := R119.1 16 _ _ rfl; have := R119.1 19 _ _ rfl; have := E124.f yS; omega) (by decide) I117.start) rfl (Nat.le_of_ble_eq_true rfl) (Nat.le_of_ble_eq_true rfl) (Nat.le_of_ble_eq_true rfl) (hst := rfl) (fun b127r M128 n129 b127 => ?_)
            obtain ⟨T130, J131, rfl, R134, f135⟩ := b127
            have I132 := I117.call J131 (tm_sub (by decide)) (Or.inl rfl)
            have t136 := J131.up t123
            have z137 := (rv_c I117 J131 (I117.up h_o0) (k := 16) rfl)
            have z138 := (rv_c I117 J131 (I117.up h_o0) (k := 17) rfl)
            have z139 := (rv_c I117 J131 (I117.up h_o0) (k := 19) rfl)
            have z140 := (rv_c I117 J131 (I117.up h_o0) (k := 22) rfl)
            have E141 : rE M0 M128 o0 1 0 := E124.emit f135 (rE_hv I117 J131 (I117.up h_o0) 15 19 (by decide)) (yR.2 5 _ _ rfl 44).1 (by decide) (Or.inr (Or.inr ⟨by decide, by decide, by decide, by decide⟩)) (by decide)
            have Z9142 : pO M128 o0 pb pn pa s125 := f122.same (rE_hv I117 J131 (I117.up h_o0) 14 20 (by decide)) (rv_c I117 J131 (I117.up h_o0) (k := 23) rfl) (ra_call I117 J131 (I117.up h_o0) (k := 13) rfl rfl rfl)
            refine mv_goto (tgt := 4) d_TrustDeskModel_sum_58 (by decide) ?_
            have T143 : ∃ s1 : p_S, pO M128 o0 pb pn pa s1 ∧ p_lp pn (p_su1 pb pn pa (p_op pb pn pa 0)) s1 = p_sum pb pn pa (p_op pb pn pa 0) ps := ⟨s125, Z9142, (by have st : (p_su1 pb pn pa (p_op pb pn pa 0)) s17 = s125 := (by have := Z918.s4 (by omega) (by omega); rw [show (p_su1 pb pn pa (p_op pb pn pa 0)) s17 = p_pro pb pn pa (p_op pb pn pa 0) (p_nx s17) from if_pos ⟨by omega, by omega⟩]; simp only [e110, e126]); rw [← st, p_P.go (p_su1_P (p_op_M _)) s17]; exact e19)⟩
            refine mv_locals (lv' := [(0, .ref o0)]) (by intro q hq; simp only [List.mem_cons, List.not_mem_nil, or_false] at hq; rcases hq with rfl <;> rfl) ?_
            exact (ih16 T130 M128 n129 I132 t136 (by have := R134.1 15 _ _ rfl; have := R134.1 16 _ _ rfl; have := R134.1 19 _ _ rfl; have := E141.f yS; first | omega | decide | exact fun h9 => absurd (by decide) h9) R134 E141 T143 (by have := R134.1 15 _ _ rfl; have := R134.1 16 _ _ rfl; have := R134.1 19 _ _ rfl; have := E141.f yS; omega))
  have T144 : ∃ s1 : p_S, pO M2 o0 pb pn pa s1 ∧ p_lp pn (p_su1 pb pn pa (p_op pb pn pa 0)) s1 = p_sum pb pn pa (p_op pb pn pa 0) ps := ⟨s14, f11, (by rw [← e15]; rfl)⟩
  exact mv_less (Nat.zero_le _) (Nat.zero_le _) (L4_16 4294967296 T4 M2 n3 I6 t12 (by have := R8.1 15 _ _ rfl; have := R8.1 16 _ _ rfl; have := R8.1 19 _ _ rfl; have := E13.f yS; first | omega | decide | exact fun h9 => absurd (by decide) h9) R8 E13 T144 (by have := R8.1 15 _ _ rfl; have := R8.1 16 _ _ rfl; have := R8.1 19 _ _ rfl; have := E13.f yS; omega))
