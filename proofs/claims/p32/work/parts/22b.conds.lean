set_option maxHeartbeats 100000000 in theorem tg_TrustDeskModel_factor {E r7 : Nat} {K K1 : Int} (hK9 : K1 = K + 1 ∧ 0 ≤ K ∧ K ≤ 3) (H_sum : ∀ {g : mj_G} {l : Launch} {d : Nat} {T0 : tm_H} {M0 : mj_M} {n0 x9 : Nat} {o0 : Nat} (h_o0 : T0 o0 = some (0, 13, 0)) (yR : rI M0 o0) (yT : rT M0 o0) (yS : rv M0 o0 19 = 0 → ra M0 o0 5 44 ≤ rv M0 o0 16) (yL : rv M0 o0 19 ≠ 0 ∨ (K1 ≤ rv M0 o0 22 ∧ rv M0 o0 22 ≤ K1)) {pb : Nat → Int} {pn : Nat} {pa : Int} {ps : p_S} (yO : pO M0 o0 pb pn pa ps) (I0 : tm_I tm_FT (tm_in w_TrustDeskModel_sum_q1_x) x9 T0 M0 n0 T0 M0 n0), mj_Met g l kY_TrustDeskModel_sum (d + E + 8) [.ref o0] M0 n0 0 0 (tm_Q tm_FT (tm_in w_TrustDeskModel_sum_q1_x) x9 T0 M0 n0 (fun r _ M => r = none ∧ rI M o0 ∧ (rE M0 M o0 1 0) ∧ (rv M o0 19 = 0 → rv M o0 22 = rv M0 o0 22) ∧ (pO M o0 pb pn pa (p_sum pb pn pa (p_op pb pn pa r7) ps))))) (H_cond : ∀ {g : mj_G} {l : Launch} {d : Nat} {T0 : tm_H} {M0 : mj_M} {n0 x9 : Nat} {o0 : Nat} (h_o0 : T0 o0 = some (0, 13, 0)) (yR : rI M0 o0) (yT : rT M0 o0) (yS : rv M0 o0 19 = 0 → ra M0 o0 5 44 ≤ rv M0 o0 16) (yL : rv M0 o0 19 ≠ 0 ∨ (K1 ≤ rv M0 o0 22 ∧ rv M0 o0 22 ≤ K1)) {pb : Nat → Int} {pn : Nat} {pa : Int} {ps : p_S} (yO : pO M0 o0 pb pn pa ps) (I0 : tm_I tm_FT (tm_in w_TrustDeskModel_cond_q1_x) x9 T0 M0 n0 T0 M0 n0), mj_Met g l kY_TrustDeskModel_cond (d + E + 12) [.ref o0] M0 n0 0 0 (tm_Q tm_FT (tm_in w_TrustDeskModel_cond_q1_x) x9 T0 M0 n0 (fun r _ M => r = none ∧ rI M o0 ∧ (rE M0 M o0 1 0) ∧ (rv M o0 19 = 0 → rv M o0 22 = rv M0 o0 22) ∧ (pO M o0 pb pn pa (p_con pb pn pa r7 (p_oc pb pn pa r7) ps))))) {g : mj_G} {l : Launch} {d : Nat} {T0 : tm_H} {M0 : mj_M} {n0 x9 : Nat} {o0 : Nat} (h_o0 : T0 o0 = some (0, 13, 0)) (yR : rI M0 o0) (yT : rT M0 o0) (yS : rv M0 o0 19 = 0 → ra M0 o0 5 44 ≤ rv M0 o0 16) (yL : rv M0 o0 19 ≠ 0 ∨ (K ≤ rv M0 o0 22 ∧ rv M0 o0 22 ≤ K)) {pb : Nat → Int} {pn : Nat} {pa : Int} {ps : p_S} (yO : pO M0 o0 pb pn pa ps) (I0 : tm_I tm_FT (tm_in w_TrustDeskModel_factor_q1_x) x9 T0 M0 n0 T0 M0 n0) : mj_Met g l kY_TrustDeskModel_factor (d + E + 9) [.ref o0] M0 n0 0 0 (tm_Q tm_FT (tm_in w_TrustDeskModel_factor_q1_x) x9 T0 M0 n0 (fun r _ M => r = none ∧ rI M o0 ∧ (rE M0 M o0 1 0) ∧ (rv M o0 19 = 0 → rv M o0 22 = rv M0 o0 22) ∧ (pO M o0 pb pn pa (p_fac pb pn pa (p_op pb pn pa (r7 + 1)) ps)))) := by
  refine mj_enter (by decide) (Nat.le_of_ble_eq_true rfl) ?_
  have yE0 := rE.rf yT
  have := yO.w
  refine mv_aload_n d_TrustDeskModel_factor_0 rfl rfl ?_
  obtain ⟨_, b1, -⟩ := I0.1 _ _ h_o0
  refine mv_callV (kc1 := 0) (ks1 := 0) (kc' := 0) (ks' := 0) (As := []) (st9 := [.ref o0]) d_TrustDeskModel_factor_1 lV_TrustDeskModel_230 b1 rfl (mj_enter (by decide) (Nat.le_of_ble_eq_true rfl) ?_) rfl (Nat.le_of_ble_eq_true rfl) (Nat.le_of_ble_eq_true rfl) (Nat.le_of_ble_eq_true rfl) (hst := rfl) (fun _ _ _ h => h)
  refine mv_aload_n d_TrustDeskModel_isWell_0 rfl rfl ?_
  obtain ⟨v3, q2⟩ := tm_atI I0 h_o0 (k := 19) rfl
  refine tr_getK q2 d_TrustDeskModel_isWell_1 f_TrustDeskModel_224_13 ?_
  have := yR.f (k := 19) q2 rfl
  have := tm_rv q2
  have := mz_hi v3
  refine mv_if_neZ (tgt := 11) (a := v3.toInt) d_TrustDeskModel_isWell_4 (by decide) rfl (fun b4 => ?_) (fun b4 => ?_)
  · refine mv_iconst (v := 0) d_TrustDeskModel_isWell_11 (by decide) ?_
    refine mv_iret d_TrustDeskModel_isWell_12 rfl (by decide) ?_
    refine mv_if_ne_f (tgt := 8) d_TrustDeskModel_factor_4 (by decide) (by decide) ?_
    exact mv_vret d_TrustDeskModel_factor_7 rfl ⟨_, I0, rfl, yR, yE0.vac (by have := yR.1 15 _ _ rfl; have := yR.1 16 _ _ rfl; have := yR.1 19 _ _ rfl; have := yE0.f yS; omega) 1 0, (by have := yR.1 15 _ _ rfl; have := yR.1 16 _ _ rfl; have := yR.1 19 _ _ rfl; have := yE0.f yS; omega), (by first | (rw [show p_fac pb pn pa (p_op pb pn pa (r7 + 1)) ps = ps from (by have hop : (p_op pb pn pa (r7 + 1)) ps = p_sg pb pn 41 (p_sum pb pn pa (p_op pb pn pa r7) (p_nx ps)) := rfl; unfold p_fac; (try simp only [hop]); skip; ((repeat' (first | (with_reducible rfl) | split)) <;> (exfalso; omega)))]; exact yO) | (exfalso; have := yR.1 15 _ _ rfl; have := yR.1 16 _ _ rfl; have := yR.1 19 _ _ rfl; have := yE0.f yS; omega))⟩
  · refine mv_iconst (v := 1) d_TrustDeskModel_isWell_7 (by decide) ?_
    refine mv_goto (tgt := 12) d_TrustDeskModel_isWell_8 (by decide) ?_
    refine mv_iret d_TrustDeskModel_isWell_12 rfl (by decide) ?_
    refine mv_if_ne_t (tgt := 8) d_TrustDeskModel_factor_4 (by decide) (by decide) ?_
    refine mv_aload_n d_TrustDeskModel_factor_8 rfl rfl ?_
    obtain ⟨v6, q5⟩ := tm_atI I0 h_o0 (k := 17) rfl
    refine tr_getK q5 d_TrustDeskModel_factor_9 f_TrustDeskModel_198_13 ?_
    have := tm_rv q5
    refine mv_iconst (v := 2) d_TrustDeskModel_factor_12 (by decide) ?_
    have := mz_hi v6
    refine mv_icmp_neZ (tgt := 31) (a := v6.toInt) (b := 2) d_TrustDeskModel_factor_13 (by decide) rfl (by decide) (fun b7 => ?_) (fun b7 => ?_)
    · refine mv_aload_n d_TrustDeskModel_factor_31 rfl rfl ?_
      refine tr_getK (k := 17) q5 d_TrustDeskModel_factor_32 f_TrustDeskModel_198_13 ?_
      refine mv_iconst (v := 3) d_TrustDeskModel_factor_35 (by decide) ?_
      have := mz_hi v6
      refine mv_icmp_neZ (tgt := 77) (a := v6.toInt) (b := 3) d_TrustDeskModel_factor_36 (by decide) rfl (by decide) (fun b8 => ?_) (fun b8 => ?_)
      · refine mv_aload_n d_TrustDeskModel_factor_77 rfl rfl ?_
        refine mv_bipush (v := 40) d_TrustDeskModel_factor_78 (by decide) ?_
        obtain ⟨_, b9, -⟩ := I0.1 _ _ h_o0
        refine mv_callV (kc1 := 0) (ks1 := 0) (kc' := 0) (ks' := 0) (As := [.int 40]) (st9 := [.int 40, .ref o0]) d_TrustDeskModel_factor_80 lV_TrustDeskModel_234 b9 rfl (mj_enter (by decide) (Nat.le_of_ble_eq_true rfl) ?_) rfl (Nat.le_of_ble_eq_true rfl) (Nat.le_of_ble_eq_true rfl) (Nat.le_of_ble_eq_true rfl) (hst := rfl) (fun _ _ _ h => h)
        refine mv_aload_n d_TrustDeskModel_isSign_0 rfl rfl ?_
        refine tr_getK (k := 17) q5 d_TrustDeskModel_isSign_1 f_TrustDeskModel_198_13 ?_
        refine mv_iconst (v := 4) d_TrustDeskModel_isSign_4 (by decide) ?_
        have := mz_hi v6
        refine mv_icmp_neZ (tgt := 20) (a := v6.toInt) (b := 4) d_TrustDeskModel_isSign_5 (by decide) rfl (by decide) (fun b10 => ?_) (fun b10 => ?_)
        · refine mv_iconst (v := 0) d_TrustDeskModel_isSign_20 (by decide) ?_
          refine mv_iret d_TrustDeskModel_isSign_21 rfl (by decide) ?_
          refine mv_if_eq_t (tgt := 113) d_TrustDeskModel_factor_83 (by decide) (by decide) ?_
          refine mv_aload_n d_TrustDeskModel_factor_113 rfl rfl ?_
          refine mv_iconst (v := 1) d_TrustDeskModel_factor_114 (by decide) ?_
          obtain ⟨_, b17, -⟩ := I0.1 _ _ h_o0
          have : (1 : Int32).toInt = 1 := by decide
          refine mv_callV (kc' := 0) (ks' := 0) (As := [.int 1]) (st9 := [.int 1, .ref o0]) d_TrustDeskModel_factor_115 lV_TrustDeskModel_240 b17 rfl (tc_TrustDeskModel_fails_x (d := (d + E + 8)) (x9 := x9) (o0 := o0) (x1 := 1) h_o0 yR (by decide) yO I0.start) rfl (Nat.le_of_ble_eq_true rfl) (Nat.le_of_ble_eq_true rfl) (Nat.le_of_ble_eq_true rfl) (hst := rfl) (fun b11r M12 n13 b11 => ?_)
          obtain ⟨T14, J15, rfl, R18, f19, f20⟩ := b11
          have I16 := I0.call J15 (tm_sub (by decide)) (Or.inl rfl)
          have t21 := J15.up h_o0
          have z22 := (rv_c I0 J15 (I0.up h_o0) (k := 16) rfl)
          have z23 := (rv_c I0 J15 (I0.up h_o0) (k := 17) rfl)
          have z24 := (rv_c I0 J15 (I0.up h_o0) (k := 22) rfl)
          have E25 : rE M0 M12 o0 0 0 := yE0.fails (rE_hv I0 J15 (I0.up h_o0) 15 18 (by decide)) (rE_ha I0 J15 (I0.up h_o0) (by decide)) f19 0 0
          rw [show (1 : Int32).toInt = 1 from by decide] at f20
          obtain ⟨s26, e27⟩ : ∃ s9 : p_S, p_fl pb pn 1 ps = s9 := ⟨_, rfl⟩
          rw [e27] at f20
          have := f20.w
          have q28 := J15.keep h_o0 (by decide) q5
          exact mv_vret d_TrustDeskModel_factor_118 rfl ⟨_, I16, rfl, R18, E25.vac (by have := R18.1 15 _ _ rfl; have := R18.1 16 _ _ rfl; have := R18.1 19 _ _ rfl; have := E25.f yS; omega) 1 0, (by have := R18.1 15 _ _ rfl; have := R18.1 16 _ _ rfl; have := R18.1 19 _ _ rfl; have := E25.f yS; omega), (by first | (have := yO.n4 (by omega) (by omega); have := yO.n3 (by omega) (by omega); have := yO.n2 (by omega) (by omega); rw [show p_fac pb pn pa (p_op pb pn pa (r7 + 1)) ps = s26 from (by have hop : (p_op pb pn pa (r7 + 1)) ps = p_sg pb pn 41 (p_sum pb pn pa (p_op pb pn pa r7) (p_nx ps)) := rfl; unfold p_fac; (try simp only [hop]); (try simp only [e27]); ((repeat' (first | (with_reducible rfl) | split)) <;> (exfalso; omega)))]; exact f20) | (exfalso; have := R18.1 15 _ _ rfl; have := R18.1 16 _ _ rfl; have := R18.1 19 _ _ rfl; have := E25.f yS; omega))⟩
        · refine mv_aload_n d_TrustDeskModel_isSign_8 rfl rfl ?_
          obtain ⟨v30, q29⟩ := tm_atI I0 h_o0 (k := 18) rfl
          refine tr_getK q29 d_TrustDeskModel_isSign_9 f_TrustDeskModel_201_13 ?_
          have := yR.f (k := 18) q29 rfl
          have := tm_rv q29
          refine mv_iload_n d_TrustDeskModel_isSign_12 rfl rfl ?_
          have := mz_hi v30
          refine mv_icmp_neZ (tgt := 20) (a := v30.toInt) (b := 40) d_TrustDeskModel_isSign_13 (by decide) rfl (by decide) (fun b31 => ?_) (fun b31 => ?_)
          · refine mv_iconst (v := 0) d_TrustDeskModel_isSign_20 (by decide) ?_
            refine mv_iret d_TrustDeskModel_isSign_21 rfl (by decide) ?_
            refine mv_if_eq_t (tgt := 113) d_TrustDeskModel_factor_83 (by decide) (by decide) ?_
            refine mv_aload_n d_TrustDeskModel_factor_113 rfl rfl ?_
            refine mv_iconst (v := 1) d_TrustDeskModel_factor_114 (by decide) ?_
            obtain ⟨_, b38, -⟩ := I0.1 _ _ h_o0
            have : (1 : Int32).toInt = 1 := by decide
            refine mv_callV (kc' := 0) (ks' := 0) (As := [.int 1]) (st9 := [.int 1, .ref o0]) d_TrustDeskModel_factor_115 lV_TrustDeskModel_240 b38 rfl (tc_TrustDeskModel_fails_x (d := (d + E + 8)) (x9 := x9) (o0 := o0) (x1 := 1) h_o0 yR (by decide) yO I0.start) rfl (Nat.le_of_ble_eq_true rfl) (Nat.le_of_ble_eq_true rfl) (Nat.le_of_ble_eq_true rfl) (hst := rfl) (fun b32r M33 n34 b32 => ?_)
            obtain ⟨T35, J36, rfl, R39, f40, f41⟩ := b32
            have I37 := I0.call J36 (tm_sub (by decide)) (Or.inl rfl)
            have t42 := J36.up h_o0
            have z43 := (rv_c I0 J36 (I0.up h_o0) (k := 16) rfl)
            have z44 := (rv_c I0 J36 (I0.up h_o0) (k := 17) rfl)
            have z45 := (rv_c I0 J36 (I0.up h_o0) (k := 22) rfl)
            have E46 : rE M0 M33 o0 0 0 := yE0.fails (rE_hv I0 J36 (I0.up h_o0) 15 18 (by decide)) (rE_ha I0 J36 (I0.up h_o0) (by decide)) f40 0 0
            rw [show (1 : Int32).toInt = 1 from by decide] at f41
            obtain ⟨s47, e48⟩ : ∃ s9 : p_S, p_fl pb pn 1 ps = s9 := ⟨_, rfl⟩
            rw [e48] at f41
            have := f41.w
            have q49 := J36.keep h_o0 (by decide) q5
            have q50 := J36.keep h_o0 (by decide) q29
            exact mv_vret d_TrustDeskModel_factor_118 rfl ⟨_, I37, rfl, R39, E46.vac (by have := R39.1 15 _ _ rfl; have := R39.1 16 _ _ rfl; have := R39.1 19 _ _ rfl; have := E46.f yS; omega) 1 0, (by have := R39.1 15 _ _ rfl; have := R39.1 16 _ _ rfl; have := R39.1 19 _ _ rfl; have := E46.f yS; omega), (by first | (have := yO.s4 (by omega) (by omega); rw [show p_fac pb pn pa (p_op pb pn pa (r7 + 1)) ps = s47 from (by have hop : (p_op pb pn pa (r7 + 1)) ps = p_sg pb pn 41 (p_sum pb pn pa (p_op pb pn pa r7) (p_nx ps)) := rfl; unfold p_fac; (try simp only [hop]); (try simp only [e48]); ((repeat' (first | (with_reducible rfl) | split)) <;> (exfalso; omega)))]; exact f41) | (exfalso; have := R39.1 15 _ _ rfl; have := R39.1 16 _ _ rfl; have := R39.1 19 _ _ rfl; have := E46.f yS; omega))⟩
          · refine mv_iconst (v := 1) d_TrustDeskModel_isSign_16 (by decide) ?_
            refine mv_goto (tgt := 21) d_TrustDeskModel_isSign_17 (by decide) ?_
            refine mv_iret d_TrustDeskModel_isSign_21 rfl (by decide) ?_
            refine mv_if_eq_f (tgt := 113) d_TrustDeskModel_factor_83 (by decide) (by decide) ?_
            refine mv_aload_n d_TrustDeskModel_factor_86 rfl rfl ?_
            obtain ⟨_, b57, -⟩ := I0.1 _ _ h_o0
            refine mv_callV (kc' := 0) (ks' := 0) (As := []) (st9 := [.ref o0]) d_TrustDeskModel_factor_87 lV_TrustDeskModel_285 b57 rfl (tc_TrustDeskModel_opens_x (d := (d + E + 6)) (x9 := x9) (o0 := o0) h_o0 yR yE0.1 (by have := yR.1 15 _ _ rfl; have := yR.1 16 _ _ rfl; have := yR.1 19 _ _ rfl; have := yE0.f yS; omega) (by have := yR.1 15 _ _ rfl; have := yR.1 16 _ _ rfl; have := yR.1 19 _ _ rfl; have := yE0.f yS; omega) (by have := yR.1 15 _ _ rfl; have := yR.1 16 _ _ rfl; have := yR.1 19 _ _ rfl; have := yE0.f yS; omega) (by have := yR.1 15 _ _ rfl; have := yR.1 16 _ _ rfl; have := yR.1 19 _ _ rfl; have := yE0.f yS; omega) yO I0.start) rfl (Nat.le_of_ble_eq_true rfl) (Nat.le_of_ble_eq_true rfl) (Nat.le_of_ble_eq_true rfl) (hst := rfl) (fun b51r M52 n53 b51 => ?_)
            obtain ⟨T54, J55, rfl, R58, f59, f60, f61⟩ := b51
            have I56 := I0.call J55 (tm_sub (by decide)) (Or.inl rfl)
            have t62 := J55.up h_o0
            have E63 : rE M0 M52 o0 0 1 := yE0.trans f59 (by decide) (yR.2 5 _ _ rfl 44).1 (by decide) (by decide)
            have := f59.w
            rw [if_neg (by have := yR.1 15 _ _ rfl; have := yR.1 16 _ _ rfl; have := yR.1 19 _ _ rfl; have := yE0.f yS; omega)] at f61
            obtain ⟨s64, e65⟩ : ∃ s9 : p_S, p_nx ps = s9 := ⟨_, rfl⟩
            rw [e65] at f61
            have := f61.w
            refine mv_aload_n d_TrustDeskModel_factor_90 rfl rfl ?_
            obtain ⟨_, b72, -⟩ := I56.1 _ _ t62
            refine mv_callV (kc' := 0) (ks' := 0) (As := []) (st9 := [.ref o0]) d_TrustDeskModel_factor_91 lV_TrustDeskModel_288 b72 rfl (H_sum (d := d) (x9 := x9) (o0 := o0) t62 R58 E63.1 (by have := R58.1 15 _ _ rfl; have := R58.1 16 _ _ rfl; have := R58.1 19 _ _ rfl; have := E63.f yS; omega) (by have := R58.1 15 _ _ rfl; have := R58.1 16 _ _ rfl; have := R58.1 19 _ _ rfl; have := E63.f yS; omega) f61 I56.start) rfl (Nat.le_of_ble_eq_true rfl) (Nat.le_of_ble_eq_true rfl) (Nat.le_of_ble_eq_true rfl) (hst := rfl) (fun b66r M67 n68 b66 => ?_)
            obtain ⟨T69, J70, rfl, R73, f74, f75, f76⟩ := b66
            have I71 := I56.call J70 (tm_sub (by decide)) (Or.inl rfl)
            have t77 := J70.up t62
            have E78 : rE M0 M67 o0 1 1 := E63.trans f74 (by decide) (yR.2 5 _ _ rfl 44).1 (by decide) (by decide)
            have := f74.w
            obtain ⟨s79, e80⟩ : ∃ s9 : p_S, p_sum pb pn pa (p_op pb pn pa r7) s64 = s9 := ⟨_, rfl⟩
            rw [e80] at f76
            have := f76.w
            refine mv_aload_n d_TrustDeskModel_factor_94 rfl rfl ?_
            refine mv_bipush (v := 41) d_TrustDeskModel_factor_95 (by decide) ?_
            obtain ⟨_, b87, -⟩ := I71.1 _ _ t77
            have : (41 : Int32).toInt = 41 := by decide
            refine mv_callV (kc' := 0) (ks' := 0) (As := [.int 41]) (st9 := [.int 41, .ref o0]) d_TrustDeskModel_factor_97 lV_TrustDeskModel_291 b87 rfl (tc_TrustDeskModel_wantSign_x (d := (d + E + 6)) (x9 := x9) (o0 := o0) (x1 := 41) t77 R73 E78.1 (by have := R73.1 15 _ _ rfl; have := R73.1 16 _ _ rfl; have := R73.1 19 _ _ rfl; have := E78.f yS; omega) (by decide) f76 I71.start) rfl (Nat.le_of_ble_eq_true rfl) (Nat.le_of_ble_eq_true rfl) (Nat.le_of_ble_eq_true rfl) (hst := rfl) (fun b81r M82 n83 b81 => ?_)
            obtain ⟨T84, J85, rfl, R88, f89, f90⟩ := b81
            have I86 := I71.call J85 (tm_sub (by decide)) (Or.inl rfl)
            have t91 := J85.up t77
            have z92 := (rv_c I71 J85 (I71.up h_o0) (k := 22) rfl)
            have E93 : rE M0 M82 o0 1 2 := E78.trans f89 (by decide) (yR.2 5 _ _ rfl 44).1 (by decide) (by decide)
            have := f89.w
            rw [show (41 : Int32).toInt = 41 from by decide] at f90
            obtain ⟨s94, e95⟩ : ∃ s9 : p_S, p_sg pb pn 41 s79 = s9 := ⟨_, rfl⟩
            rw [e95] at f90
            have := f90.w
            refine mv_aload_n d_TrustDeskModel_factor_100 rfl rfl ?_
            refine mv_dup d_TrustDeskModel_factor_101 rfl ?_
            obtain ⟨v97, q96⟩ := tm_atI I86 t91 (k := 22) rfl
            refine tr_getK q96 d_TrustDeskModel_factor_102 f_TrustDeskModel_276_13 ?_
            have := (tm_rv q96).symm.trans z92
            have := tm_rv q96
            refine mv_iconst (v := 1) d_TrustDeskModel_factor_105 (by decide) ?_
            refine mv_isub d_TrustDeskModel_factor_106 ?_
            have : rv M82 o0 19 = 0 → (v97 - 1 : Int32).toInt = v97.toInt - 1 := fun h9 => mz_sub2 rfl (by decide) (by omega) (by omega)
            refine tr_putR (k := 22) I86 R88 t91 rfl ⟨_, rfl⟩ (fun _ h => by cases h) rfl (fun lo hi h => by cases h) (Or.inl (by decide)) d_TrustDeskModel_factor_107 p_TrustDeskModel_276_13 rfl rfl (fun M98 I99 q100 K101 R102 A103 V104 => ?_)
            have z105 := (V104 16 (by decide))
            have z106 := (V104 17 (by decide))
            have z107 := (V104 19 (by decide))
            have z108 : rv M98 o0 22 = (v97 - 1).toInt := tm_rv q100
            have E109 : rE M0 M98 o0 1 2 := E93.same (fun k h1 h2 => V104 k (by omega)) (fun k h1 h2 => A103 k (by omega))
            have Z9110 : pO M98 o0 pb pn pa s94 := f90.same (fun k h1 h2 => V104 k (by omega)) (V104 23 (by decide)) (A103 13 (by decide))
            refine mv_goto (tgt := 118) d_TrustDeskModel_factor_110 (by decide) ?_
            exact mv_vret d_TrustDeskModel_factor_118 rfl ⟨_, I99, rfl, R102, E109.less (by decide), (by have := R102.1 15 _ _ rfl; have := R102.1 16 _ _ rfl; have := R102.1 19 _ _ rfl; have := E109.f yS; omega), (by first | (have := yO.s4 (by omega) (by omega); rw [show p_fac pb pn pa (p_op pb pn pa (r7 + 1)) ps = s94 from (by have hop : (p_op pb pn pa (r7 + 1)) ps = p_sg pb pn 41 (p_sum pb pn pa (p_op pb pn pa r7) (p_nx ps)) := rfl; unfold p_fac; (try simp only [hop]); (try simp only [e65, e80, e95]); ((repeat' (first | (with_reducible rfl) | split)) <;> (exfalso; omega)))]; exact Z9110) | (exfalso; have := R102.1 15 _ _ rfl; have := R102.1 16 _ _ rfl; have := R102.1 19 _ _ rfl; have := E109.f yS; omega))⟩
      · refine mv_aload_n d_TrustDeskModel_factor_39 rfl rfl ?_
        obtain ⟨_, b117, -⟩ := I0.1 _ _ h_o0
        refine mv_callV (kc' := 0) (ks' := 0) (As := []) (st9 := [.ref o0]) d_TrustDeskModel_factor_40 lV_TrustDeskModel_282 b117 rfl (tc_TrustDeskModel_name_x (d := (d + E + 3)) (x9 := x9) (o0 := o0) h_o0 yR (by have := yR.1 15 _ _ rfl; have := yR.1 16 _ _ rfl; have := yR.1 19 _ _ rfl; have := yE0.f yS; omega) yO I0.start) rfl (Nat.le_of_ble_eq_true rfl) (Nat.le_of_ble_eq_true rfl) (Nat.le_of_ble_eq_true rfl) (hst := rfl) (fun b111r M112 n113 b111 => ?_)
        obtain ⟨T114, J115, v118, rfl, R119, f120, f121⟩ := b111
        have I116 := I0.call J115 (tm_sub (by decide)) (Or.inl rfl)
        have t122 := J115.up h_o0
        have z123 := (rv_c I0 J115 (I0.up h_o0) (k := 16) rfl)
        have z124 := (rv_c I0 J115 (I0.up h_o0) (k := 17) rfl)
        have z125 := (rv_c I0 J115 (I0.up h_o0) (k := 19) rfl)
        have z126 := (rv_c I0 J115 (I0.up h_o0) (k := 22) rfl)
        have E127 : rE M0 M112 o0 0 0 := yE0.same (rE_hv I0 J115 (I0.up h_o0) 15 19 (by decide)) (rE_ha I0 J115 (I0.up h_o0) (by decide))
        have Z9128 : pO M112 o0 pb pn pa ps := yO.same (rE_hv I0 J115 (I0.up h_o0) 14 20 (by decide)) (rv_c I0 J115 (I0.up h_o0) (k := 23) rfl) (ra_call I0 J115 (I0.up h_o0) (k := 13) rfl rfl rfl)
        have q129 := J115.keep h_o0 (by decide) q2
        have q130 := J115.keep h_o0 (by decide) q5
        refine mv_istore_n (lv' := [(1, .int v118), (0, .ref o0)]) d_TrustDeskModel_factor_43 rfl (by decide) rfl ?_
        refine mv_iload_n d_TrustDeskModel_factor_44 rfl rfl ?_
        refine mv_iconst (v := (-1)) d_TrustDeskModel_factor_45 (by decide) ?_
        have := mz_hi v118
        refine mv_icmp_neZ (tgt := 54) (a := v118.toInt) (b := (-1)) d_TrustDeskModel_factor_46 (by decide) rfl (by decide) (fun b131 => ?_) (fun b131 => ?_)
        · refine mv_aload_n d_TrustDeskModel_factor_54 rfl rfl ?_
          refine mv_sipush (v := 10000) d_TrustDeskModel_factor_55 (by decide) ?_
          refine mv_iload_n d_TrustDeskModel_factor_58 rfl rfl ?_
          refine mv_iadd d_TrustDeskModel_factor_59 ?_
          obtain ⟨_, b138, -⟩ := I116.1 _ _ t122
          have b139 : (10000 + v118 : Int32).toInt = (10000 + v118.toInt) := mz_add2 (by decide) rfl (by have := R119.1 15 _ _ rfl; have := R119.1 16 _ _ rfl; have := R119.1 19 _ _ rfl; have := E127.f yS; omega) (by have := R119.1 15 _ _ rfl; have := R119.1 16 _ _ rfl; have := R119.1 19 _ _ rfl; have := E127.f yS; omega)
          refine mv_callV (kc' := 0) (ks' := 0) (As := [.int (10000 + v118)]) (st9 := [.int (10000 + v118), .ref o0]) d_TrustDeskModel_factor_60 lV_TrustDeskModel_279 b138 rfl (tc_TrustDeskModel_emits_x (d := (d + E + 7)) (x9 := x9) (o0 := o0) (x1 := (10000 + v118)) t122 R119 (by have := R119.1 15 _ _ rfl; have := R119.1 16 _ _ rfl; have := R119.1 19 _ _ rfl; have := E127.f yS; omega) (by have := R119.1 15 _ _ rfl; have := R119.1 16 _ _ rfl; have := R119.1 19 _ _ rfl; have := E127.f yS; omega) I116.start) rfl (Nat.le_of_ble_eq_true rfl) (Nat.le_of_ble_eq_true rfl) (Nat.le_of_ble_eq_true rfl) (hst := rfl) (fun b132r M133 n134 b132 => ?_)
          obtain ⟨T135, J136, rfl, R140, f141⟩ := b132
          have I137 := I116.call J136 (tm_sub (by decide)) (Or.inl rfl)
          have t142 := J136.up t122
          have z143 := (rv_c I116 J136 (I116.up h_o0) (k := 16) rfl).trans z123
          have z144 := (rv_c I116 J136 (I116.up h_o0) (k := 17) rfl).trans z124
          have z145 := (rv_c I116 J136 (I116.up h_o0) (k := 19) rfl).trans z125
          have z146 := (rv_c I116 J136 (I116.up h_o0) (k := 22) rfl).trans z126
          have E147 : rE M0 M133 o0 1 (-1) := E127.emit f141 (rE_hv I116 J136 (I116.up h_o0) 15 19 (by decide)) (yR.2 5 _ _ rfl 44).1 (by decide) (Or.inl ⟨by have := R119.1 15 _ _ rfl; have := R119.1 16 _ _ rfl; have := R119.1 19 _ _ rfl; have := E127.f yS; omega, by decide⟩) (by decide)
          have Z9148 : pO M133 o0 pb pn pa ps := Z9128.same (rE_hv I116 J136 (I116.up h_o0) 14 20 (by decide)) (rv_c I116 J136 (I116.up h_o0) (k := 23) rfl) (ra_call I116 J136 (I116.up h_o0) (k := 13) rfl rfl rfl)
          clear z123 z124 z125 z126
          have q149 := J136.keep t122 (by decide) q129
          have q150 := J136.keep t122 (by decide) q130
          refine mv_aload_n d_TrustDeskModel_factor_63 rfl rfl ?_
          obtain ⟨_, b151, -⟩ := I137.1 _ _ t142
          refine mv_callV (kc1 := 0) (ks1 := 0) (kc' := 0) (ks' := 0) (As := []) (st9 := [.ref o0]) d_TrustDeskModel_factor_64 lV_TrustDeskModel_230 b151 rfl (mj_enter (by decide) (Nat.le_of_ble_eq_true rfl) ?_) rfl (Nat.le_of_ble_eq_true rfl) (Nat.le_of_ble_eq_true rfl) (Nat.le_of_ble_eq_true rfl) (hst := rfl) (fun _ _ _ h => h)
          refine mv_aload_n d_TrustDeskModel_isWell_0 rfl rfl ?_
          refine tr_getK (k := 19) q149 d_TrustDeskModel_isWell_1 f_TrustDeskModel_224_13 ?_
          have := mz_hi v3
          refine mv_if_neZ (tgt := 11) (a := v3.toInt) d_TrustDeskModel_isWell_4 (by decide) rfl (fun b152 => absurd b152 (by omega)) (fun b152 => ?_)
          refine mv_iconst (v := 1) d_TrustDeskModel_isWell_7 (by decide) ?_
          refine mv_goto (tgt := 12) d_TrustDeskModel_isWell_8 (by decide) ?_
          refine mv_iret d_TrustDeskModel_isWell_12 rfl (by decide) ?_
          refine mv_if_eq_f (tgt := 74) d_TrustDeskModel_factor_67 (by decide) (by decide) ?_
          refine mv_aload_n d_TrustDeskModel_factor_70 rfl rfl ?_
          obtain ⟨_, b159, -⟩ := I137.1 _ _ t142
          refine mv_callV (kc' := 0) (ks' := 0) (As := []) (st9 := [.ref o0]) d_TrustDeskModel_factor_71 lV_TrustDeskModel_237 b159 rfl (tc_TrustDeskModel_next_x (d := (d + E + 7)) (x9 := x9) (o0 := o0) t142 R140 Z9148.p I137.start) rfl (Nat.le_of_ble_eq_true rfl) (Nat.le_of_ble_eq_true rfl) (Nat.le_of_ble_eq_true rfl) (hst := rfl) (fun b153r M154 n155 b153 => ?_)
          obtain ⟨T156, J157, rfl, R160, f161, f162, f163⟩ := b153
          have I158 := I137.call J157 (tm_sub (by decide)) (Or.inl rfl)
          have t164 := J157.up t142
          have z165 := (rv_c I137 J157 (I137.up h_o0) (k := 19) rfl).trans z145
          have z166 := (rv_c I137 J157 (I137.up h_o0) (k := 22) rfl).trans z146
          have h168 : rv M133 o0 16 + 1 ≤ rv M133 o0 15 := (by have := R140.1 15 _ _ rfl; have := R140.1 16 _ _ rfl; have := R140.1 19 _ _ rfl; have := E147.f yS; omega)
          have E167 : rE M0 M154 o0 1 0 := E147.next f161 f162 (rv_c I137 J157 (I137.up h_o0) (k := 19) rfl) (rE_ha I137 J157 (I137.up h_o0) (by decide)) (e := 1) h168 (by decide)
          obtain ⟨s169, e170⟩ : ∃ s9 : p_S, p_nx ps = s9 := ⟨_, rfl⟩
          rw [e170] at f163
          have := f163.w
          clear z145 z146
          have q171 := J157.keep t142 (by decide) q149
          refine mv_goto (tgt := 118) d_TrustDeskModel_factor_74 (by decide) ?_
          exact mv_vret d_TrustDeskModel_factor_118 rfl ⟨_, I158, rfl, R160, E167, (by have := R160.1 15 _ _ rfl; have := R160.1 16 _ _ rfl; have := R160.1 19 _ _ rfl; have := E167.f yS; omega), (by first | (have := yO.s3 (by omega) (by omega); rw [show p_fac pb pn pa (p_op pb pn pa (r7 + 1)) ps = s169 from (by have hop : (p_op pb pn pa (r7 + 1)) ps = p_sg pb pn 41 (p_sum pb pn pa (p_op pb pn pa r7) (p_nx ps)) := rfl; unfold p_fac; (try simp only [hop]); (try simp only [e170]); ((repeat' (first | (with_reducible rfl) | split)) <;> (exfalso; omega)))]; exact f163) | (exfalso; have := R160.1 15 _ _ rfl; have := R160.1 16 _ _ rfl; have := R160.1 19 _ _ rfl; have := E167.f yS; omega))⟩
        · refine mv_aload_n d_TrustDeskModel_factor_49 rfl rfl ?_
          refine mv_iconst (v := 3) d_TrustDeskModel_factor_50 (by decide) ?_
          obtain ⟨_, b178, -⟩ := I116.1 _ _ t122
          have : (3 : Int32).toInt = 3 := by decide
          refine mv_callV (kc' := 0) (ks' := 0) (As := [.int 3]) (st9 := [.int 3, .ref o0]) d_TrustDeskModel_factor_51 lV_TrustDeskModel_240 b178 rfl (tc_TrustDeskModel_fails_x (d := (d + E + 8)) (x9 := x9) (o0 := o0) (x1 := 3) t122 R119 (by decide) Z9128 I116.start) rfl (Nat.le_of_ble_eq_true rfl) (Nat.le_of_ble_eq_true rfl) (Nat.le_of_ble_eq_true rfl) (hst := rfl) (fun b172r M173 n174 b172 => ?_)
          obtain ⟨T175, J176, rfl, R179, f180, f181⟩ := b172
          have I177 := I116.call J176 (tm_sub (by decide)) (Or.inl rfl)
          have t182 := J176.up t122
          have z183 := (rv_c I116 J176 (I116.up h_o0) (k := 16) rfl).trans z123
          have z184 := (rv_c I116 J176 (I116.up h_o0) (k := 17) rfl).trans z124
          have z185 := (rv_c I116 J176 (I116.up h_o0) (k := 22) rfl).trans z126
          have E186 : rE M0 M173 o0 0 0 := E127.fails (rE_hv I116 J176 (I116.up h_o0) 15 18 (by decide)) (rE_ha I116 J176 (I116.up h_o0) (by decide)) f180 0 0
          rw [show (3 : Int32).toInt = 3 from by decide] at f181
          obtain ⟨s187, e188⟩ : ∃ s9 : p_S, p_fl pb pn 3 ps = s9 := ⟨_, rfl⟩
          rw [e188] at f181
          have := f181.w
          clear z123 z124 z126
          have q189 := J176.keep t122 (by decide) q130
          refine mv_aload_n d_TrustDeskModel_factor_54 rfl rfl ?_
          refine mv_sipush (v := 10000) d_TrustDeskModel_factor_55 (by decide) ?_
          refine mv_iload_n d_TrustDeskModel_factor_58 rfl rfl ?_
          refine mv_iadd d_TrustDeskModel_factor_59 ?_
          obtain ⟨_, b196, -⟩ := I177.1 _ _ t182
          have b197 : (10000 + v118 : Int32).toInt = (10000 + v118.toInt) := mz_add2 (by decide) rfl (by have := R179.1 15 _ _ rfl; have := R179.1 16 _ _ rfl; have := R179.1 19 _ _ rfl; have := E186.f yS; omega) (by have := R179.1 15 _ _ rfl; have := R179.1 16 _ _ rfl; have := R179.1 19 _ _ rfl; have := E186.f yS; omega)
          refine mv_callV (kc' := 0) (ks' := 0) (As := [.int (10000 + v118)]) (st9 := [.int (10000 + v118), .ref o0]) d_TrustDeskModel_factor_60 lV_TrustDeskModel_279 b196 rfl (tc_TrustDeskModel_emits_x (d := (d + E + 7)) (x9 := x9) (o0 := o0) (x1 := (10000 + v118)) t182 R179 (by have := R179.1 15 _ _ rfl; have := R179.1 16 _ _ rfl; have := R179.1 19 _ _ rfl; have := E186.f yS; omega) (by have := R179.1 15 _ _ rfl; have := R179.1 16 _ _ rfl; have := R179.1 19 _ _ rfl; have := E186.f yS; omega) I177.start) rfl (Nat.le_of_ble_eq_true rfl) (Nat.le_of_ble_eq_true rfl) (Nat.le_of_ble_eq_true rfl) (hst := rfl) (fun b190r M191 n192 b190 => ?_)
          obtain ⟨T193, J194, rfl, R198, f199⟩ := b190
          have I195 := I177.call J194 (tm_sub (by decide)) (Or.inl rfl)
          have t200 := J194.up t182
          have z201 := (rv_c I177 J194 (I177.up h_o0) (k := 16) rfl).trans z183
          have z202 := (rv_c I177 J194 (I177.up h_o0) (k := 17) rfl).trans z184
          have z203 := (rv_c I177 J194 (I177.up h_o0) (k := 19) rfl)
          have z204 := (rv_c I177 J194 (I177.up h_o0) (k := 22) rfl).trans z185
          have E205 : rE M0 M191 o0 1 (-1) := E186.emit f199 (rE_hv I177 J194 (I177.up h_o0) 15 19 (by decide)) (yR.2 5 _ _ rfl 44).1 (by decide) (Or.inl ⟨by have := R179.1 15 _ _ rfl; have := R179.1 16 _ _ rfl; have := R179.1 19 _ _ rfl; have := E186.f yS; omega, by decide⟩) (by decide)
          have Z9206 : pO M191 o0 pb pn pa s187 := f181.same (rE_hv I177 J194 (I177.up h_o0) 14 20 (by decide)) (rv_c I177 J194 (I177.up h_o0) (k := 23) rfl) (ra_call I177 J194 (I177.up h_o0) (k := 13) rfl rfl rfl)
          clear z183 z184 z185
          have q207 := J194.keep t182 (by decide) q189
          refine mv_aload_n d_TrustDeskModel_factor_63 rfl rfl ?_
          obtain ⟨_, b208, -⟩ := I195.1 _ _ t200
          refine mv_callV (kc1 := 0) (ks1 := 0) (kc' := 0) (ks' := 0) (As := []) (st9 := [.ref o0]) d_TrustDeskModel_factor_64 lV_TrustDeskModel_230 b208 rfl (mj_enter (by decide) (Nat.le_of_ble_eq_true rfl) ?_) rfl (Nat.le_of_ble_eq_true rfl) (Nat.le_of_ble_eq_true rfl) (Nat.le_of_ble_eq_true rfl) (hst := rfl) (fun _ _ _ h => h)
          refine mv_aload_n d_TrustDeskModel_isWell_0 rfl rfl ?_
          obtain ⟨v210, q209⟩ := tm_atI I195 t200 (k := 19) rfl
          refine tr_getK q209 d_TrustDeskModel_isWell_1 f_TrustDeskModel_224_13 ?_
          have := R198.f (k := 19) q209 rfl
          have := (tm_rv q209).symm.trans z203
          have := tm_rv q209
          have := mz_hi v210
          refine mv_if_neZ (tgt := 11) (a := v210.toInt) d_TrustDeskModel_isWell_4 (by decide) rfl (fun b211 => ?_) (fun b211 => ?_)
          · refine mv_iconst (v := 0) d_TrustDeskModel_isWell_11 (by decide) ?_
            refine mv_iret d_TrustDeskModel_isWell_12 rfl (by decide) ?_
            refine mv_if_eq_t (tgt := 74) d_TrustDeskModel_factor_67 (by decide) (by decide) ?_
            refine mv_goto (tgt := 118) d_TrustDeskModel_factor_74 (by decide) ?_
            exact mv_vret d_TrustDeskModel_factor_118 rfl ⟨_, I195, rfl, R198, E205.vac (by have := R198.1 15 _ _ rfl; have := R198.1 16 _ _ rfl; have := R198.1 19 _ _ rfl; have := E205.f yS; omega) 1 0, (by have := R198.1 15 _ _ rfl; have := R198.1 16 _ _ rfl; have := R198.1 19 _ _ rfl; have := E205.f yS; omega), (by first | (have := yO.s3 (by omega) (by omega); rw [show p_fac pb pn pa (p_op pb pn pa (r7 + 1)) ps = s187 from (by have hop : (p_op pb pn pa (r7 + 1)) ps = p_sg pb pn 41 (p_sum pb pn pa (p_op pb pn pa r7) (p_nx ps)) := rfl; unfold p_fac; (try simp only [hop]); (try simp only [e188]); ((repeat' (first | (with_reducible rfl) | split)) <;> (exfalso; omega)))]; exact Z9206) | (exfalso; have := R198.1 15 _ _ rfl; have := R198.1 16 _ _ rfl; have := R198.1 19 _ _ rfl; have := E205.f yS; omega))⟩
          · refine mv_iconst (v := 1) d_TrustDeskModel_isWell_7 (by decide) ?_
            refine mv_goto (tgt := 12) d_TrustDeskModel_isWell_8 (by decide) ?_
            refine mv_iret d_TrustDeskModel_isWell_12 rfl (by decide) ?_
            refine mv_if_eq_f (tgt := 74) d_TrustDeskModel_factor_67 (by decide) (by decide) ?_
            refine mv_aload_n d_TrustDeskModel_factor_70 rfl rfl ?_
            obtain ⟨_, b218, -⟩ := I195.1 _ _ t200
            refine mv_callV (kc' := 0) (ks' := 0) (As := []) (st9 := [.ref o0]) d_TrustDeskModel_factor_71 lV_TrustDeskModel_237 b218 rfl (tc_TrustDeskModel_next_x (d := (d + E + 7)) (x9 := x9) (o0 := o0) t200 R198 Z9206.p I195.start) rfl (Nat.le_of_ble_eq_true rfl) (Nat.le_of_ble_eq_true rfl) (Nat.le_of_ble_eq_true rfl) (hst := rfl) (fun b212r M213 n214 b212 => ?_)
            obtain ⟨T215, J216, rfl, R219, f220, f221, f222⟩ := b212
            have I217 := I195.call J216 (tm_sub (by decide)) (Or.inl rfl)
            have t223 := J216.up t200
            have z224 := (rv_c I195 J216 (I195.up h_o0) (k := 19) rfl).trans z203
            have z225 := (rv_c I195 J216 (I195.up h_o0) (k := 22) rfl).trans z204
            have h227 : rv M191 o0 16 + 1 ≤ rv M191 o0 15 := (by have := R198.1 15 _ _ rfl; have := R198.1 16 _ _ rfl; have := R198.1 19 _ _ rfl; have := E205.f yS; omega)
            have E226 : rE M0 M213 o0 1 0 := E205.next f220 f221 (rv_c I195 J216 (I195.up h_o0) (k := 19) rfl) (rE_ha I195 J216 (I195.up h_o0) (by decide)) (e := 1) h227 (by decide)
            obtain ⟨s228, e229⟩ : ∃ s9 : p_S, p_nx s187 = s9 := ⟨_, rfl⟩
            rw [e229] at f222
            have := f222.w
            clear z203 z204
            have q230 := J216.keep t200 (by decide) q209
            refine mv_goto (tgt := 118) d_TrustDeskModel_factor_74 (by decide) ?_
            exact mv_vret d_TrustDeskModel_factor_118 rfl ⟨_, I217, rfl, R219, E226, (by have := R219.1 15 _ _ rfl; have := R219.1 16 _ _ rfl; have := R219.1 19 _ _ rfl; have := E226.f yS; omega), (by first | (have := yO.s3 (by omega) (by omega); rw [show p_fac pb pn pa (p_op pb pn pa (r7 + 1)) ps = s228 from (by have hop : (p_op pb pn pa (r7 + 1)) ps = p_sg pb pn 41 (p_sum pb pn pa (p_op pb pn pa r7) (p_nx ps)) := rfl; unfold p_fac; (try simp only [hop]); (try simp only [e188, e229]); ((repeat' (first | (with_reducible rfl) | split)) <;> (exfalso; omega)))]; exact f222) | (exfalso; have := R219.1 15 _ _ rfl; have := R219.1 16 _ _ rfl; have := R219.1 19 _ _ rfl; have := E226.f yS; omega))⟩
    · refine mv_aload_n d_TrustDeskModel_factor_16 rfl rfl ?_
      refine mv_aload_n d_TrustDeskModel_factor_17 rfl rfl ?_
      obtain ⟨v232, q231⟩ := tm_atI I0 h_o0 (k := 18) rfl
      refine tr_getK q231 d_TrustDeskModel_factor_18 f_TrustDeskModel_201_13 ?_
      have := yR.f (k := 18) q231 rfl
      have := tm_rv q231
      obtain ⟨_, b239, -⟩ := I0.1 _ _ h_o0
      refine mv_callV (kc' := 0) (ks' := 0) (As := [.int v232]) (st9 := [.int v232, .ref o0]) d_TrustDeskModel_factor_21 lV_TrustDeskModel_279 b239 rfl (tc_TrustDeskModel_emits_x (d := (d + E + 7)) (x9 := x9) (o0 := o0) (x1 := v232) h_o0 yR (by have := yR.1 15 _ _ rfl; have := yR.1 16 _ _ rfl; have := yR.1 19 _ _ rfl; have := yE0.f yS; omega) (by have := yR.1 15 _ _ rfl; have := yR.1 16 _ _ rfl; have := yR.1 19 _ _ rfl; have := yE0.f yS; omega) I0.start) rfl (Nat.le_of_ble_eq_true rfl) (Nat.le_of_ble_eq_true rfl) (Nat.le_of_ble_eq_true rfl) (hst := rfl) (fun b233r M234 n235 b233 => ?_)
      obtain ⟨T236, J237, rfl, R240, f241⟩ := b233
      have I238 := I0.call J237 (tm_sub (by decide)) (Or.inl rfl)
      have t242 := J237.up h_o0
      have z243 := (rv_c I0 J237 (I0.up h_o0) (k := 16) rfl)
      have z244 := (rv_c I0 J237 (I0.up h_o0) (k := 17) rfl)
      have z245 := (rv_c I0 J237 (I0.up h_o0) (k := 19) rfl)
      have z246 := (rv_c I0 J237 (I0.up h_o0) (k := 22) rfl)
      have E247 : rE M0 M234 o0 1 (-1) := yE0.emit f241 (rE_hv I0 J237 (I0.up h_o0) 15 19 (by decide)) (yR.2 5 _ _ rfl 44).1 (by decide) (Or.inl ⟨by have := yR.1 15 _ _ rfl; have := yR.1 16 _ _ rfl; have := yR.1 19 _ _ rfl; have := yE0.f yS; omega, by decide⟩) (by decide)
      have Z9248 : pO M234 o0 pb pn pa ps := yO.same (rE_hv I0 J237 (I0.up h_o0) 14 20 (by decide)) (rv_c I0 J237 (I0.up h_o0) (k := 23) rfl) (ra_call I0 J237 (I0.up h_o0) (k := 13) rfl rfl rfl)
      have q249 := J237.keep h_o0 (by decide) q2
      have q250 := J237.keep h_o0 (by decide) q5
      have q251 := J237.keep h_o0 (by decide) q231
      refine mv_aload_n d_TrustDeskModel_factor_24 rfl rfl ?_
      obtain ⟨_, b258, -⟩ := I238.1 _ _ t242
      refine mv_callV (kc' := 0) (ks' := 0) (As := []) (st9 := [.ref o0]) d_TrustDeskModel_factor_25 lV_TrustDeskModel_237 b258 rfl (tc_TrustDeskModel_next_x (d := (d + E + 7)) (x9 := x9) (o0 := o0) t242 R240 Z9248.p I238.start) rfl (Nat.le_of_ble_eq_true rfl) (Nat.le_of_ble_eq_true rfl) (Nat.le_of_ble_eq_true rfl) (hst := rfl) (fun b252r M253 n254 b252 => ?_)
      obtain ⟨T255, J256, rfl, R259, f260, f261, f262⟩ := b252
      have I257 := I238.call J256 (tm_sub (by decide)) (Or.inl rfl)
      have t263 := J256.up t242
      have z264 := (rv_c I238 J256 (I238.up h_o0) (k := 19) rfl).trans z245
      have z265 := (rv_c I238 J256 (I238.up h_o0) (k := 22) rfl).trans z246
      have h267 : rv M234 o0 16 + 1 ≤ rv M234 o0 15 := (by have := R240.1 15 _ _ rfl; have := R240.1 16 _ _ rfl; have := R240.1 19 _ _ rfl; have := E247.f yS; omega)
      have E266 : rE M0 M253 o0 1 0 := E247.next f260 f261 (rv_c I238 J256 (I238.up h_o0) (k := 19) rfl) (rE_ha I238 J256 (I238.up h_o0) (by decide)) (e := 1) h267 (by decide)
      obtain ⟨s268, e269⟩ : ∃ s9 : p_S, p_nx ps = s9 := ⟨_, rfl⟩
      rw [e269] at f262
      have := f262.w
      clear z245 z246
      have q270 := J256.keep t242 (by decide) q249
      refine mv_goto (tgt := 118) d_TrustDeskModel_factor_28 (by decide) ?_
      exact mv_vret d_TrustDeskModel_factor_118 rfl ⟨_, I257, rfl, R259, E266, (by have := R259.1 15 _ _ rfl; have := R259.1 16 _ _ rfl; have := R259.1 19 _ _ rfl; have := E266.f yS; omega), (by first | (have := yO.s2 (by omega) (by omega); rw [show p_fac pb pn pa (p_op pb pn pa (r7 + 1)) ps = s268 from (by have hop : (p_op pb pn pa (r7 + 1)) ps = p_sg pb pn 41 (p_sum pb pn pa (p_op pb pn pa r7) (p_nx ps)) := rfl; unfold p_fac; (try simp only [hop]); (try simp only [e269]); ((repeat' (first | (with_reducible rfl) | split)) <;> (exfalso; omega)))]; exact f262) | (exfalso; have := R259.1 15 _ _ rfl; have := R259.1 16 _ _ rfl; have := R259.1 19 _ _ rfl; have := E266.f yS; omega))⟩
set_option maxHeartbeats 100000000 in theorem tg_TrustDeskModel_product {E r7 : Nat} {K K1 : Int} (hK9 : K1 = K + 1 ∧ 0 ≤ K ∧ K ≤ 3) (H_sum : ∀ {g : mj_G} {l : Launch} {d : Nat} {T0 : tm_H} {M0 : mj_M} {n0 x9 : Nat} {o0 : Nat} (h_o0 : T0 o0 = some (0, 13, 0)) (yR : rI M0 o0) (yT : rT M0 o0) (yS : rv M0 o0 19 = 0 → ra M0 o0 5 44 ≤ rv M0 o0 16) (yL : rv M0 o0 19 ≠ 0 ∨ (K1 ≤ rv M0 o0 22 ∧ rv M0 o0 22 ≤ K1)) {pb : Nat → Int} {pn : Nat} {pa : Int} {ps : p_S} (yO : pO M0 o0 pb pn pa ps) (I0 : tm_I tm_FT (tm_in w_TrustDeskModel_sum_q1_x) x9 T0 M0 n0 T0 M0 n0), mj_Met g l kY_TrustDeskModel_sum (d + E + 8) [.ref o0] M0 n0 0 0 (tm_Q tm_FT (tm_in w_TrustDeskModel_sum_q1_x) x9 T0 M0 n0 (fun r _ M => r = none ∧ rI M o0 ∧ (rE M0 M o0 1 0) ∧ (rv M o0 19 = 0 → rv M o0 22 = rv M0 o0 22) ∧ (pO M o0 pb pn pa (p_sum pb pn pa (p_op pb pn pa r7) ps))))) (H_cond : ∀ {g : mj_G} {l : Launch} {d : Nat} {T0 : tm_H} {M0 : mj_M} {n0 x9 : Nat} {o0 : Nat} (h_o0 : T0 o0 = some (0, 13, 0)) (yR : rI M0 o0) (yT : rT M0 o0) (yS : rv M0 o0 19 = 0 → ra M0 o0 5 44 ≤ rv M0 o0 16) (yL : rv M0 o0 19 ≠ 0 ∨ (K1 ≤ rv M0 o0 22 ∧ rv M0 o0 22 ≤ K1)) {pb : Nat → Int} {pn : Nat} {pa : Int} {ps : p_S} (yO : pO M0 o0 pb pn pa ps) (I0 : tm_I tm_FT (tm_in w_TrustDeskModel_cond_q1_x) x9 T0 M0 n0 T0 M0 n0), mj_Met g l kY_TrustDeskModel_cond (d + E + 12) [.ref o0] M0 n0 0 0 (tm_Q tm_FT (tm_in w_TrustDeskModel_cond_q1_x) x9 T0 M0 n0 (fun r _ M => r = none ∧ rI M o0 ∧ (rE M0 M o0 1 0) ∧ (rv M o0 19 = 0 → rv M o0 22 = rv M0 o0 22) ∧ (pO M o0 pb pn pa (p_con pb pn pa r7 (p_oc pb pn pa r7) ps))))) {g : mj_G} {l : Launch} {d : Nat} {T0 : tm_H} {M0 : mj_M} {n0 x9 : Nat} {o0 : Nat} (h_o0 : T0 o0 = some (0, 13, 0)) (yR : rI M0 o0) (yT : rT M0 o0) (yS : rv M0 o0 19 = 0 → ra M0 o0 5 44 ≤ rv M0 o0 16) (yL : rv M0 o0 19 ≠ 0 ∨ (K ≤ rv M0 o0 22 ∧ rv M0 o0 22 ≤ K)) {pb : Nat → Int} {pn : Nat} {pa : Int} {ps : p_S} (yO : pO M0 o0 pb pn pa ps) (I0 : tm_I tm_FT (tm_in w_TrustDeskModel_product_q1_x) x9 T0 M0 n0 T0 M0 n0) : mj_Met g l kY_TrustDeskModel_product (d + E + 10) [.ref o0] M0 n0 0 0 (tm_Q tm_FT (tm_in w_TrustDeskModel_product_q1_x) x9 T0 M0 n0 (fun r _ M => r = none ∧ rI M o0 ∧ (rE M0 M o0 1 0) ∧ (rv M o0 19 = 0 → rv M o0 22 = rv M0 o0 22) ∧ (pO M o0 pb pn pa (p_pro pb pn pa (p_op pb pn pa (r7 + 1)) ps)))) := by
  refine mj_enter (by decide) (Nat.le_of_ble_eq_true rfl) ?_
  have yE0 := rE.rf yT
  have := yO.w
  refine mv_aload_n d_TrustDeskModel_product_0 rfl rfl ?_
  obtain ⟨_, b7, -⟩ := I0.1 _ _ h_o0
  refine mv_callV (kc' := 0) (ks' := 0) (As := []) (st9 := [.ref o0]) d_TrustDeskModel_product_1 lV_TrustDeskModel_294 b7 rfl (tg_TrustDeskModel_factor hK9 H_sum H_cond (d := d) (x9 := x9) (o0 := o0) h_o0 yR yE0.1 (by have := yR.1 15 _ _ rfl; have := yR.1 16 _ _ rfl; have := yR.1 19 _ _ rfl; have := yE0.f yS; omega) (by have := yR.1 15 _ _ rfl; have := yR.1 16 _ _ rfl; have := yR.1 19 _ _ rfl; have := yE0.f yS; omega) yO I0.start) rfl (Nat.le_of_ble_eq_true rfl) (Nat.le_of_ble_eq_true rfl) (Nat.le_of_ble_eq_true rfl) (hst := rfl) (fun b1r M2 n3 b1 => ?_)
  obtain ⟨T4, J5, rfl, R8, f9, f10, f11⟩ := b1
  have I6 := I0.call J5 (tm_sub (by decide)) (Or.inl rfl)
  have t12 := J5.up h_o0
  have E13 : rE M0 M2 o0 1 0 := yE0.trans f9 (by decide) (yR.2 5 _ _ rfl 44).1 (by decide) (by decide)
  have := f9.w
  obtain ⟨s14, e15⟩ : ∃ s9 : p_S, p_fac pb pn pa (p_op pb pn pa (r7 + 1)) ps = s9 := ⟨_, rfl⟩
  rw [e15] at f11
  have := f11.w
  have L4_16 : ∀ (k : Nat) (T_16 : tm_H) (M_16 : mj_M) (n_16 : Nat), tm_I tm_FT (tm_in w_TrustDeskModel_product_q1_x) x9 T0 M0 n0 T_16 M_16 n_16 → T_16 o0 = some (0, 13, 0) → (rv M_16 o0 19 = 0 → rv M_16 o0 22 = rv M0 o0 22) → (rI M_16 o0) → (rE M0 M_16 o0 1 0) → (∃ s1 : p_S, pO M_16 o0 pb pn pa s1 ∧ p_lp pn (p_pr1 pb pn pa (p_op pb pn pa (r7 + 1))) s1 = p_pro pb pn pa (p_op pb pn pa (r7 + 1)) ps) → 5 * (401 - rv M_16 o0 16) - rv M_16 o0 19 < (k : Int) → mj_V g l kY_TrustDeskModel_product (d + E + 10) 4 [(0, .ref o0)] [] M_16 n_16 0 0 (tm_Q tm_FT (tm_in w_TrustDeskModel_product_q1_x) x9 T0 M0 n0 (fun r _ M => r = none ∧ rI M o0 ∧ (rE M0 M o0 1 0) ∧ (rv M o0 19 = 0 → rv M o0 22 = rv M0 o0 22) ∧ (pO M o0 pb pn pa (p_pro pb pn pa (p_op pb pn pa (r7 + 1)) ps)))) := by
    intro k16
    induction k16 with
    | zero =>
      intro T_16 M_16 n_16 I_16 h_q0_16 iv0_16 kKR_16 kKE_16 kKT9_16 hk16
      have := kKR_16.1 15 _ _ rfl
      have := kKR_16.1 16 _ _ rfl
      have := kKR_16.1 19 _ _ rfl
      exfalso; omega
    | succ k16 ih16 =>
      intro T_16 M_16 n_16 I_16 h_q0_16 iv0_16 kKR_16 kKE_16 kKT9_16 hk16
      have := kKE_16.f yS
      obtain ⟨s17, Z918, e19⟩ := kKT9_16
      have := Z918.w
      refine mv_aload_n d_TrustDeskModel_product_4 rfl rfl ?_
      obtain ⟨_, b20, -⟩ := I_16.1 _ _ h_q0_16
      refine mv_callV (kc1 := 0) (ks1 := 0) (kc' := 0) (ks' := 0) (As := []) (st9 := [.ref o0]) d_TrustDeskModel_product_5 lV_TrustDeskModel_230 b20 rfl (mj_enter (by decide) (Nat.le_of_ble_eq_true rfl) ?_) rfl (Nat.le_of_ble_eq_true rfl) (Nat.le_of_ble_eq_true rfl) (Nat.le_of_ble_eq_true rfl) (hst := rfl) (fun _ _ _ h => h)
      refine mv_aload_n d_TrustDeskModel_isWell_0 rfl rfl ?_
      obtain ⟨v22, q21⟩ := tm_atI I_16 h_q0_16 (k := 19) rfl
      refine tr_getK q21 d_TrustDeskModel_isWell_1 f_TrustDeskModel_224_13 ?_
      have := kKR_16.f (k := 19) q21 rfl
      have := tm_rv q21
      have := mz_hi v22
      refine mv_if_neZ (tgt := 11) (a := v22.toInt) d_TrustDeskModel_isWell_4 (by decide) rfl (fun b23 => ?_) (fun b23 => ?_)
      · refine mv_iconst (v := 0) d_TrustDeskModel_isWell_11 (by decide) ?_
        refine mv_iret d_TrustDeskModel_isWell_12 rfl (by decide) ?_
        refine mv_if_eq_t (tgt := 37) d_TrustDeskModel_product_8 (by decide) (by decide) ?_
        exact mv_vret d_TrustDeskModel_product_37 rfl ⟨_, I_16, rfl, kKR_16, kKE_16, (by have := kKR_16.1 15 _ _ rfl; have := kKR_16.1 16 _ _ rfl; have := kKR_16.1 19 _ _ rfl; have := kKE_16.f yS; omega), (by first | (have hX := e19.symm.trans (p_lp_stop (show (p_pr1 pb pn pa (p_op pb pn pa (r7 + 1))) s17 = s17 from if_neg (fun h9 => by omega))); rw [show p_pro pb pn pa (p_op pb pn pa (r7 + 1)) ps = s17 from (by exact hX)]; exact Z918) | (exfalso; have := kKR_16.1 15 _ _ rfl; have := kKR_16.1 16 _ _ rfl; have := kKR_16.1 19 _ _ rfl; have := kKE_16.f yS; omega))⟩
      · refine mv_iconst (v := 1) d_TrustDeskModel_isWell_7 (by decide) ?_
        refine mv_goto (tgt := 12) d_TrustDeskModel_isWell_8 (by decide) ?_
        refine mv_iret d_TrustDeskModel_isWell_12 rfl (by decide) ?_
        refine mv_if_eq_f (tgt := 37) d_TrustDeskModel_product_8 (by decide) (by decide) ?_
        refine mv_aload_n d_TrustDeskModel_product_11 rfl rfl ?_
        refine mv_bipush (v := 42) d_TrustDeskModel_product_12 (by decide) ?_
        obtain ⟨_, b24, -⟩ := I_16.1 _ _ h_q0_16
        refine mv_callV (kc1 := 0) (ks1 := 0) (kc' := 0) (ks' := 0) (As := [.int 42]) (st9 := [.int 42, .ref o0]) d_TrustDeskModel_product_14 lV_TrustDeskModel_234 b24 rfl (mj_enter (by decide) (Nat.le_of_ble_eq_true rfl) ?_) rfl (Nat.le_of_ble_eq_true rfl) (Nat.le_of_ble_eq_true rfl) (Nat.le_of_ble_eq_true rfl) (hst := rfl) (fun _ _ _ h => h)
        refine mv_aload_n d_TrustDeskModel_isSign_0 rfl rfl ?_
        obtain ⟨v26, q25⟩ := tm_atI I_16 h_q0_16 (k := 17) rfl
        refine tr_getK q25 d_TrustDeskModel_isSign_1 f_TrustDeskModel_198_13 ?_
        have := tm_rv q25
        refine mv_iconst (v := 4) d_TrustDeskModel_isSign_4 (by decide) ?_
        have := mz_hi v26
        refine mv_icmp_neZ (tgt := 20) (a := v26.toInt) (b := 4) d_TrustDeskModel_isSign_5 (by decide) rfl (by decide) (fun b27 => ?_) (fun b27 => ?_)
        · refine mv_iconst (v := 0) d_TrustDeskModel_isSign_20 (by decide) ?_
          refine mv_iret d_TrustDeskModel_isSign_21 rfl (by decide) ?_
          refine mv_if_eq_t (tgt := 37) d_TrustDeskModel_product_17 (by decide) (by decide) ?_
          exact mv_vret d_TrustDeskModel_product_37 rfl ⟨_, I_16, rfl, kKR_16, kKE_16, (by have := kKR_16.1 15 _ _ rfl; have := kKR_16.1 16 _ _ rfl; have := kKR_16.1 19 _ _ rfl; have := kKE_16.f yS; omega), (by first | (have := Z918.n4 (by omega) (by omega); have hX := e19.symm.trans (p_lp_stop (show (p_pr1 pb pn pa (p_op pb pn pa (r7 + 1))) s17 = s17 from if_neg (fun h9 => by omega))); rw [show p_pro pb pn pa (p_op pb pn pa (r7 + 1)) ps = s17 from (by exact hX)]; exact Z918) | (exfalso; have := kKR_16.1 15 _ _ rfl; have := kKR_16.1 16 _ _ rfl; have := kKR_16.1 19 _ _ rfl; have := kKE_16.f yS; omega))⟩
        · refine mv_aload_n d_TrustDeskModel_isSign_8 rfl rfl ?_
          obtain ⟨v29, q28⟩ := tm_atI I_16 h_q0_16 (k := 18) rfl
          refine tr_getK q28 d_TrustDeskModel_isSign_9 f_TrustDeskModel_201_13 ?_
          have := kKR_16.f (k := 18) q28 rfl
          have := tm_rv q28
          refine mv_iload_n d_TrustDeskModel_isSign_12 rfl rfl ?_
          have := mz_hi v29
          refine mv_icmp_neZ (tgt := 20) (a := v29.toInt) (b := 42) d_TrustDeskModel_isSign_13 (by decide) rfl (by decide) (fun b30 => ?_) (fun b30 => ?_)
          · refine mv_iconst (v := 0) d_TrustDeskModel_isSign_20 (by decide) ?_
            refine mv_iret d_TrustDeskModel_isSign_21 rfl (by decide) ?_
            refine mv_if_eq_t (tgt := 37) d_TrustDeskModel_product_17 (by decide) (by decide) ?_
            exact mv_vret d_TrustDeskModel_product_37 rfl ⟨_, I_16, rfl, kKR_16, kKE_16, (by have := kKR_16.1 15 _ _ rfl; have := kKR_16.1 16 _ _ rfl; have := kKR_16.1 19 _ _ rfl; have := kKE_16.f yS; omega), (by first | (have := Z918.s4 (by omega) (by omega); have hX := e19.symm.trans (p_lp_stop (show (p_pr1 pb pn pa (p_op pb pn pa (r7 + 1))) s17 = s17 from if_neg (fun h9 => by omega))); rw [show p_pro pb pn pa (p_op pb pn pa (r7 + 1)) ps = s17 from (by exact hX)]; exact Z918) | (exfalso; have := kKR_16.1 15 _ _ rfl; have := kKR_16.1 16 _ _ rfl; have := kKR_16.1 19 _ _ rfl; have := kKE_16.f yS; omega))⟩
          · refine mv_iconst (v := 1) d_TrustDeskModel_isSign_16 (by decide) ?_
            refine mv_goto (tgt := 21) d_TrustDeskModel_isSign_17 (by decide) ?_
            refine mv_iret d_TrustDeskModel_isSign_21 rfl (by decide) ?_
            refine mv_if_eq_f (tgt := 37) d_TrustDeskModel_product_17 (by decide) (by decide) ?_
            refine mv_aload_n d_TrustDeskModel_product_20 rfl rfl ?_
            obtain ⟨_, b37, -⟩ := I_16.1 _ _ h_q0_16
            refine mv_callV (kc' := 0) (ks' := 0) (As := []) (st9 := [.ref o0]) d_TrustDeskModel_product_21 lV_TrustDeskModel_237 b37 rfl (tc_TrustDeskModel_next_x (d := (d + E + 8)) (x9 := x9) (o0 := o0) h_q0_16 kKR_16 Z918.p I_16.start) rfl (Nat.le_of_ble_eq_true rfl) (Nat.le_of_ble_eq_true rfl) (Nat.le_of_ble_eq_true rfl) (hst := rfl) (fun b31r M32 n33 b31 => ?_)
            obtain ⟨T34, J35, rfl, R38, f39, f40, f41⟩ := b31
            have I36 := I_16.call J35 (tm_sub (by decide)) (Or.inl rfl)
            have t42 := J35.up h_q0_16
            have z43 := (rv_c I_16 J35 (I_16.up h_o0) (k := 19) rfl)
            have z44 := (rv_c I_16 J35 (I_16.up h_o0) (k := 22) rfl)
            have h46 : rv M_16 o0 16 + 1 ≤ rv M_16 o0 15 := (by have := kKR_16.1 15 _ _ rfl; have := kKR_16.1 16 _ _ rfl; have := kKR_16.1 19 _ _ rfl; have := kKE_16.f yS; omega)
            have E45 : rE M0 M32 o0 1 1 := kKE_16.next f39 f40 (rv_c I_16 J35 (I_16.up h_o0) (k := 19) rfl) (rE_ha I_16 J35 (I_16.up h_o0) (by decide)) (e := 1) h46 (by decide)
            obtain ⟨s47, e48⟩ : ∃ s9 : p_S, p_nx s17 = s9 := ⟨_, rfl⟩
            rw [e48] at f41
            have := f41.w
            have q49 := J35.keep h_q0_16 (by decide) q21
            refine mv_aload_n d_TrustDeskModel_product_24 rfl rfl ?_
            obtain ⟨_, b56, -⟩ := I36.1 _ _ t42
            refine mv_callV (kc' := 0) (ks' := 0) (As := []) (st9 := [.ref o0]) d_TrustDeskModel_product_25 lV_TrustDeskModel_294 b56 rfl (tg_TrustDeskModel_factor hK9 H_sum H_cond (d := d) (x9 := x9) (o0 := o0) t42 R38 E45.1 (by have := R38.1 15 _ _ rfl; have := R38.1 16 _ _ rfl; have := R38.1 19 _ _ rfl; have := E45.f yS; omega) (by have := R38.1 15 _ _ rfl; have := R38.1 16 _ _ rfl; have := R38.1 19 _ _ rfl; have := E45.f yS; omega) f41 I36.start) rfl (Nat.le_of_ble_eq_true rfl) (Nat.le_of_ble_eq_true rfl) (Nat.le_of_ble_eq_true rfl) (hst := rfl) (fun b50r M51 n52 b50 => ?_)
            obtain ⟨T53, J54, rfl, R57, f58, f59, f60⟩ := b50
            have I55 := I36.call J54 (tm_sub (by decide)) (Or.inl rfl)
            have t61 := J54.up t42
            have E62 : rE M0 M51 o0 2 1 := E45.trans f58 (by decide) (yR.2 5 _ _ rfl 44).1 (by decide) (by decide)
            have := f58.w
            obtain ⟨s63, e64⟩ : ∃ s9 : p_S, p_fac pb pn pa (p_op pb pn pa (r7 + 1)) s47 = s9 := ⟨_, rfl⟩
            rw [e64] at f60
            have := f60.w
            refine mv_aload_n d_TrustDeskModel_product_28 rfl rfl ?_
            refine mv_bipush (v := (-3)) d_TrustDeskModel_product_29 (by decide) ?_
            obtain ⟨_, b71, -⟩ := I55.1 _ _ t61
            have : ((-3) : Int32).toInt = (-3) := by decide
            refine mv_callV (kc' := 0) (ks' := 0) (As := [.int (-3)]) (st9 := [.int (-3), .ref o0]) d_TrustDeskModel_product_31 lV_TrustDeskModel_279 b71 rfl (tc_TrustDeskModel_emits_x (d := (d + E + 8)) (x9 := x9) (o0 := o0) (x1 := (-3)) t61 R57 (by have := R57.1 15 _ _ rfl; have := R57.1 16 _ _ rfl; have := R57.1 19 _ _ rfl; have := E62.f yS; omega) (by decide) I55.start) rfl (Nat.le_of_ble_eq_true rfl) (Nat.le_of_ble_eq_true rfl) (Nat.le_of_ble_eq_true rfl) (hst := rfl) (fun b65r M66 n67 b65 => ?_)
            obtain ⟨T68, J69, rfl, R72, f73⟩ := b65
            have I70 := I55.call J69 (tm_sub (by decide)) (Or.inl rfl)
            have t74 := J69.up t61
            have z75 := (rv_c I55 J69 (I55.up h_o0) (k := 16) rfl)
            have z76 := (rv_c I55 J69 (I55.up h_o0) (k := 17) rfl)
            have z77 := (rv_c I55 J69 (I55.up h_o0) (k := 19) rfl)
            have z78 := (rv_c I55 J69 (I55.up h_o0) (k := 22) rfl)
            have E79 : rE M0 M66 o0 1 0 := E62.emit f73 (rE_hv I55 J69 (I55.up h_o0) 15 19 (by decide)) (yR.2 5 _ _ rfl 44).1 (by decide) (Or.inr (Or.inr ⟨by decide, by decide, by decide, by decide⟩)) (by decide)
            have Z980 : pO M66 o0 pb pn pa s63 := f60.same (rE_hv I55 J69 (I55.up h_o0) 14 20 (by decide)) (rv_c I55 J69 (I55.up h_o0) (k := 23) rfl) (ra_call I55 J69 (I55.up h_o0) (k := 13) rfl rfl rfl)
            refine mv_goto (tgt := 4) d_TrustDeskModel_product_34 (by decide) ?_
            have T81 : ∃ s1 : p_S, pO M66 o0 pb pn pa s1 ∧ p_lp pn (p_pr1 pb pn pa (p_op pb pn pa (r7 + 1))) s1 = p_pro pb pn pa (p_op pb pn pa (r7 + 1)) ps := ⟨s63, Z980, (by have st : (p_pr1 pb pn pa (p_op pb pn pa (r7 + 1))) s17 = s63 := (by have := Z918.s4 (by omega) (by omega); rw [show (p_pr1 pb pn pa (p_op pb pn pa (r7 + 1))) s17 = p_fac pb pn pa (p_op pb pn pa (r7 + 1)) (p_nx s17) from if_pos ⟨by omega, by omega⟩]; simp only [e48, e64]); rw [← st, p_P.go (p_pr1_P (p_op_M _)) s17]; exact e19)⟩
            exact (ih16 T68 M66 n67 I70 t74 (by have := R72.1 15 _ _ rfl; have := R72.1 16 _ _ rfl; have := R72.1 19 _ _ rfl; have := E79.f yS; first | omega | decide | exact fun h9 => absurd (by decide) h9) R72 E79 T81 (by have := R72.1 15 _ _ rfl; have := R72.1 16 _ _ rfl; have := R72.1 19 _ _ rfl; have := E79.f yS; omega))
  have T82 : ∃ s1 : p_S, pO M2 o0 pb pn pa s1 ∧ p_lp pn (p_pr1 pb pn pa (p_op pb pn pa (r7 + 1))) s1 = p_pro pb pn pa (p_op pb pn pa (r7 + 1)) ps := ⟨s14, f11, (by rw [← e15]; rfl)⟩
  exact mv_less (Nat.zero_le _) (Nat.zero_le _) (L4_16 4294967296 T4 M2 n3 I6 t12 (by have := R8.1 15 _ _ rfl; have := R8.1 16 _ _ rfl; have := R8.1 19 _ _ rfl; have := E13.f yS; first | omega | decide | exact fun h9 => absurd (by decide) h9) R8 E13 T82 (by have := R8.1 15 _ _ rfl; have := R8.1 16 _ _ rfl; have := R8.1 19 _ _ rfl; have := E13.f yS; omega))
set_option maxHeartbeats 100000000 in theorem tg_TrustDeskModel_sum {E r7 : Nat} {K K1 : Int} (hK9 : K1 = K + 1 ∧ 0 ≤ K ∧ K ≤ 3) (H_sum : ∀ {g : mj_G} {l : Launch} {d : Nat} {T0 : tm_H} {M0 : mj_M} {n0 x9 : Nat} {o0 : Nat} (h_o0 : T0 o0 = some (0, 13, 0)) (yR : rI M0 o0) (yT : rT M0 o0) (yS : rv M0 o0 19 = 0 → ra M0 o0 5 44 ≤ rv M0 o0 16) (yL : rv M0 o0 19 ≠ 0 ∨ (K1 ≤ rv M0 o0 22 ∧ rv M0 o0 22 ≤ K1)) {pb : Nat → Int} {pn : Nat} {pa : Int} {ps : p_S} (yO : pO M0 o0 pb pn pa ps) (I0 : tm_I tm_FT (tm_in w_TrustDeskModel_sum_q1_x) x9 T0 M0 n0 T0 M0 n0), mj_Met g l kY_TrustDeskModel_sum (d + E + 8) [.ref o0] M0 n0 0 0 (tm_Q tm_FT (tm_in w_TrustDeskModel_sum_q1_x) x9 T0 M0 n0 (fun r _ M => r = none ∧ rI M o0 ∧ (rE M0 M o0 1 0) ∧ (rv M o0 19 = 0 → rv M o0 22 = rv M0 o0 22) ∧ (pO M o0 pb pn pa (p_sum pb pn pa (p_op pb pn pa r7) ps))))) (H_cond : ∀ {g : mj_G} {l : Launch} {d : Nat} {T0 : tm_H} {M0 : mj_M} {n0 x9 : Nat} {o0 : Nat} (h_o0 : T0 o0 = some (0, 13, 0)) (yR : rI M0 o0) (yT : rT M0 o0) (yS : rv M0 o0 19 = 0 → ra M0 o0 5 44 ≤ rv M0 o0 16) (yL : rv M0 o0 19 ≠ 0 ∨ (K1 ≤ rv M0 o0 22 ∧ rv M0 o0 22 ≤ K1)) {pb : Nat → Int} {pn : Nat} {pa : Int} {ps : p_S} (yO : pO M0 o0 pb pn pa ps) (I0 : tm_I tm_FT (tm_in w_TrustDeskModel_cond_q1_x) x9 T0 M0 n0 T0 M0 n0), mj_Met g l kY_TrustDeskModel_cond (d + E + 12) [.ref o0] M0 n0 0 0 (tm_Q tm_FT (tm_in w_TrustDeskModel_cond_q1_x) x9 T0 M0 n0 (fun r _ M => r = none ∧ rI M o0 ∧ (rE M0 M o0 1 0) ∧ (rv M o0 19 = 0 → rv M o0 22 = rv M0 o0 22) ∧ (pO M o0 pb pn pa (p_con pb pn pa r7 (p_oc pb pn pa r7) ps))))) {g : mj_G} {l : Launch} {d : Nat} {T0 : tm_H} {M0 : mj_M} {n0 x9 : Nat} {o0 : Nat} (h_o0 : T0 o0 = some (0, 13, 0)) (yR : rI M0 o0) (yT : rT M0 o0) (yS : rv M0 o0 19 = 0 → ra M0 o0 5 44 ≤ rv M0 o0 16) (yL : rv M0 o0 19 ≠ 0 ∨ (K ≤ rv M0 o0 22 ∧ rv M0 o0 22 ≤ K)) {pb : Nat → Int} {pn : Nat} {pa : Int} {ps : p_S} (yO : pO M0 o0 pb pn pa ps) (I0 : tm_I tm_FT (tm_in w_TrustDeskModel_sum_q1_x) x9 T0 M0 n0 T0 M0 n0) : mj_Met g l kY_TrustDeskModel_sum (d + E + 11) [.ref o0] M0 n0 0 0 (tm_Q tm_FT (tm_in w_TrustDeskModel_sum_q1_x) x9 T0 M0 n0 (fun r _ M => r = none ∧ rI M o0 ∧ (rE M0 M o0 1 0) ∧ (rv M o0 19 = 0 → rv M o0 22 = rv M0 o0 22) ∧ (pO M o0 pb pn pa (p_sum pb pn pa (p_op pb pn pa (r7 + 1)) ps)))) := by
  refine mj_enter (by decide) (Nat.le_of_ble_eq_true rfl) ?_
  have yE0 := rE.rf yT
  have := yO.w
  refine mv_aload_n d_TrustDeskModel_sum_0 rfl rfl ?_
  obtain ⟨_, b7, -⟩ := I0.1 _ _ h_o0
  refine mv_callV (kc' := 0) (ks' := 0) (As := []) (st9 := [.ref o0]) d_TrustDeskModel_sum_1 lV_TrustDeskModel_297 b7 rfl (tg_TrustDeskModel_product hK9 H_sum H_cond (d := d) (x9 := x9) (o0 := o0) h_o0 yR yE0.1 (by have := yR.1 15 _ _ rfl; have := yR.1 16 _ _ rfl; have := yR.1 19 _ _ rfl; have := yE0.f yS; omega) (by have := yR.1 15 _ _ rfl; have := yR.1 16 _ _ rfl; have := yR.1 19 _ _ rfl; have := yE0.f yS; omega) yO I0.start) rfl (Nat.le_of_ble_eq_true rfl) (Nat.le_of_ble_eq_true rfl) (Nat.le_of_ble_eq_true rfl) (hst := rfl) (fun b1r M2 n3 b1 => ?_)
  obtain ⟨T4, J5, rfl, R8, f9, f10, f11⟩ := b1
  have I6 := I0.call J5 (tm_sub (by decide)) (Or.inl rfl)
  have t12 := J5.up h_o0
  have E13 : rE M0 M2 o0 1 0 := yE0.trans f9 (by decide) (yR.2 5 _ _ rfl 44).1 (by decide) (by decide)
  have := f9.w
  obtain ⟨s14, e15⟩ : ∃ s9 : p_S, p_pro pb pn pa (p_op pb pn pa (r7 + 1)) ps = s9 := ⟨_, rfl⟩
  rw [e15] at f11
  have := f11.w
  have L4_16 : ∀ (k : Nat) (T_16 : tm_H) (M_16 : mj_M) (n_16 : Nat), tm_I tm_FT (tm_in w_TrustDeskModel_sum_q1_x) x9 T0 M0 n0 T_16 M_16 n_16 → T_16 o0 = some (0, 13, 0) → (rv M_16 o0 19 = 0 → rv M_16 o0 22 = rv M0 o0 22) → (rI M_16 o0) → (rE M0 M_16 o0 1 0) → (∃ s1 : p_S, pO M_16 o0 pb pn pa s1 ∧ p_lp pn (p_su1 pb pn pa (p_op pb pn pa (r7 + 1))) s1 = p_sum pb pn pa (p_op pb pn pa (r7 + 1)) ps) → 5 * (401 - rv M_16 o0 16) - rv M_16 o0 19 < (k : Int) → mj_V g l kY_TrustDeskModel_sum (d + E + 11) 4 [(0, .ref o0)] [] M_16 n_16 0 0 (tm_Q tm_FT (tm_in w_TrustDeskModel_sum_q1_x) x9 T0 M0 n0 (fun r _ M => r = none ∧ rI M o0 ∧ (rE M0 M o0 1 0) ∧ (rv M o0 19 = 0 → rv M o0 22 = rv M0 o0 22) ∧ (pO M o0 pb pn pa (p_sum pb pn pa (p_op pb pn pa (r7 + 1)) ps)))) := by
    intro k16
    induction k16 with
    | zero =>
      intro T_16 M_16 n_16 I_16 h_q0_16 iv0_16 kKR_16 kKE_16 kKT9_16 hk16
      have := kKR_16.1 15 _ _ rfl
      have := kKR_16.1 16 _ _ rfl
      have := kKR_16.1 19 _ _ rfl
      exfalso; omega
    | succ k16 ih16 =>
      intro T_16 M_16 n_16 I_16 h_q0_16 iv0_16 kKR_16 kKE_16 kKT9_16 hk16
      have := kKE_16.f yS
      obtain ⟨s17, Z918, e19⟩ := kKT9_16
      have := Z918.w
      refine mv_aload_n d_TrustDeskModel_sum_4 rfl rfl ?_
      obtain ⟨_, b20, -⟩ := I_16.1 _ _ h_q0_16
      refine mv_callV (kc1 := 0) (ks1 := 0) (kc' := 0) (ks' := 0) (As := []) (st9 := [.ref o0]) d_TrustDeskModel_sum_5 lV_TrustDeskModel_230 b20 rfl (mj_enter (by decide) (Nat.le_of_ble_eq_true rfl) ?_) rfl (Nat.le_of_ble_eq_true rfl) (Nat.le_of_ble_eq_true rfl) (Nat.le_of_ble_eq_true rfl) (hst := rfl) (fun _ _ _ h => h)
      refine mv_aload_n d_TrustDeskModel_isWell_0 rfl rfl ?_
      obtain ⟨v22, q21⟩ := tm_atI I_16 h_q0_16 (k := 19) rfl
      refine tr_getK q21 d_TrustDeskModel_isWell_1 f_TrustDeskModel_224_13 ?_
      have := kKR_16.f (k := 19) q21 rfl
      have := tm_rv q21
      have := mz_hi v22
      refine mv_if_neZ (tgt := 11) (a := v22.toInt) d_TrustDeskModel_isWell_4 (by decide) rfl (fun b23 => ?_) (fun b23 => ?_)
      · refine mv_iconst (v := 0) d_TrustDeskModel_isWell_11 (by decide) ?_
        refine mv_iret d_TrustDeskModel_isWell_12 rfl (by decide) ?_
        refine mv_if_eq_t (tgt := 61) d_TrustDeskModel_sum_8 (by decide) (by decide) ?_
        exact mv_vret d_TrustDeskModel_sum_61 rfl ⟨_, I_16, rfl, kKR_16, kKE_16, (by have := kKR_16.1 15 _ _ rfl; have := kKR_16.1 16 _ _ rfl; have := kKR_16.1 19 _ _ rfl; have := kKE_16.f yS; omega), (by first | (have hX := e19.symm.trans (p_lp_stop (show (p_su1 pb pn pa (p_op pb pn pa (r7 + 1))) s17 = s17 from if_neg (fun h9 => by omega))); rw [show p_sum pb pn pa (p_op pb pn pa (r7 + 1)) ps = s17 from (by exact hX)]; exact Z918) | (exfalso; have := kKR_16.1 15 _ _ rfl; have := kKR_16.1 16 _ _ rfl; have := kKR_16.1 19 _ _ rfl; have := kKE_16.f yS; omega))⟩
      · refine mv_iconst (v := 1) d_TrustDeskModel_isWell_7 (by decide) ?_
        refine mv_goto (tgt := 12) d_TrustDeskModel_isWell_8 (by decide) ?_
        refine mv_iret d_TrustDeskModel_isWell_12 rfl (by decide) ?_
        refine mv_if_eq_f (tgt := 61) d_TrustDeskModel_sum_8 (by decide) (by decide) ?_
        refine mv_aload_n d_TrustDeskModel_sum_11 rfl rfl ?_
        refine mv_bipush (v := 43) d_TrustDeskModel_sum_12 (by decide) ?_
        obtain ⟨_, b24, -⟩ := I_16.1 _ _ h_q0_16
        refine mv_callV (kc1 := 0) (ks1 := 0) (kc' := 0) (ks' := 0) (As := [.int 43]) (st9 := [.int 43, .ref o0]) d_TrustDeskModel_sum_14 lV_TrustDeskModel_234 b24 rfl (mj_enter (by decide) (Nat.le_of_ble_eq_true rfl) ?_) rfl (Nat.le_of_ble_eq_true rfl) (Nat.le_of_ble_eq_true rfl) (Nat.le_of_ble_eq_true rfl) (hst := rfl) (fun _ _ _ h => h)
        refine mv_aload_n d_TrustDeskModel_isSign_0 rfl rfl ?_
        obtain ⟨v26, q25⟩ := tm_atI I_16 h_q0_16 (k := 17) rfl
        refine tr_getK q25 d_TrustDeskModel_isSign_1 f_TrustDeskModel_198_13 ?_
        have := tm_rv q25
        refine mv_iconst (v := 4) d_TrustDeskModel_isSign_4 (by decide) ?_
        have := mz_hi v26
        refine mv_icmp_neZ (tgt := 20) (a := v26.toInt) (b := 4) d_TrustDeskModel_isSign_5 (by decide) rfl (by decide) (fun b27 => ?_) (fun b27 => ?_)
        · refine mv_iconst (v := 0) d_TrustDeskModel_isSign_20 (by decide) ?_
          refine mv_iret d_TrustDeskModel_isSign_21 rfl (by decide) ?_
          refine mv_if_ne_f (tgt := 29) d_TrustDeskModel_sum_17 (by decide) (by decide) ?_
          refine mv_aload_n d_TrustDeskModel_sum_20 rfl rfl ?_
          refine mv_bipush (v := 45) d_TrustDeskModel_sum_21 (by decide) ?_
          obtain ⟨_, b28, -⟩ := I_16.1 _ _ h_q0_16
          refine mv_callV (kc1 := 0) (ks1 := 0) (kc' := 0) (ks' := 0) (As := [.int 45]) (st9 := [.int 45, .ref o0]) d_TrustDeskModel_sum_23 lV_TrustDeskModel_234 b28 rfl (mj_enter (by decide) (Nat.le_of_ble_eq_true rfl) ?_) rfl (Nat.le_of_ble_eq_true rfl) (Nat.le_of_ble_eq_true rfl) (Nat.le_of_ble_eq_true rfl) (hst := rfl) (fun _ _ _ h => h)
          refine mv_aload_n d_TrustDeskModel_isSign_0 rfl rfl ?_
          refine tr_getK (k := 17) q25 d_TrustDeskModel_isSign_1 f_TrustDeskModel_198_13 ?_
          refine mv_iconst (v := 4) d_TrustDeskModel_isSign_4 (by decide) ?_
          have := mz_hi v26
          refine mv_icmp_neZ (tgt := 20) (a := v26.toInt) (b := 4) d_TrustDeskModel_isSign_5 (by decide) rfl (by decide) (fun b29 => ?_) (fun b29 => absurd b29 (by omega))
          refine mv_iconst (v := 0) d_TrustDeskModel_isSign_20 (by decide) ?_
          refine mv_iret d_TrustDeskModel_isSign_21 rfl (by decide) ?_
          refine mv_if_eq_t (tgt := 61) d_TrustDeskModel_sum_26 (by decide) (by decide) ?_
          exact mv_vret d_TrustDeskModel_sum_61 rfl ⟨_, I_16, rfl, kKR_16, kKE_16, (by have := kKR_16.1 15 _ _ rfl; have := kKR_16.1 16 _ _ rfl; have := kKR_16.1 19 _ _ rfl; have := kKE_16.f yS; omega), (by first | (have := Z918.n4 (by omega) (by omega); have hX := e19.symm.trans (p_lp_stop (show (p_su1 pb pn pa (p_op pb pn pa (r7 + 1))) s17 = s17 from if_neg (fun h9 => by omega))); rw [show p_sum pb pn pa (p_op pb pn pa (r7 + 1)) ps = s17 from (by exact hX)]; exact Z918) | (exfalso; have := kKR_16.1 15 _ _ rfl; have := kKR_16.1 16 _ _ rfl; have := kKR_16.1 19 _ _ rfl; have := kKE_16.f yS; omega))⟩
        · refine mv_aload_n d_TrustDeskModel_isSign_8 rfl rfl ?_
          obtain ⟨v31, q30⟩ := tm_atI I_16 h_q0_16 (k := 18) rfl
          refine tr_getK q30 d_TrustDeskModel_isSign_9 f_TrustDeskModel_201_13 ?_
          have := kKR_16.f (k := 18) q30 rfl
          have := tm_rv q30
          refine mv_iload_n d_TrustDeskModel_isSign_12 rfl rfl ?_
          have := mz_hi v31
          refine mv_icmp_neZ (tgt := 20) (a := v31.toInt) (b := 43) d_TrustDeskModel_isSign_13 (by decide) rfl (by decide) (fun b32 => ?_) (fun b32 => ?_)
          · refine mv_iconst (v := 0) d_TrustDeskModel_isSign_20 (by decide) ?_
            refine mv_iret d_TrustDeskModel_isSign_21 rfl (by decide) ?_
            refine mv_if_ne_f (tgt := 29) d_TrustDeskModel_sum_17 (by decide) (by decide) ?_
            refine mv_aload_n d_TrustDeskModel_sum_20 rfl rfl ?_
            refine mv_bipush (v := 45) d_TrustDeskModel_sum_21 (by decide) ?_
            obtain ⟨_, b33, -⟩ := I_16.1 _ _ h_q0_16
            refine mv_callV (kc1 := 0) (ks1 := 0) (kc' := 0) (ks' := 0) (As := [.int 45]) (st9 := [.int 45, .ref o0]) d_TrustDeskModel_sum_23 lV_TrustDeskModel_234 b33 rfl (mj_enter (by decide) (Nat.le_of_ble_eq_true rfl) ?_) rfl (Nat.le_of_ble_eq_true rfl) (Nat.le_of_ble_eq_true rfl) (Nat.le_of_ble_eq_true rfl) (hst := rfl) (fun _ _ _ h => h)
            refine mv_aload_n d_TrustDeskModel_isSign_0 rfl rfl ?_
            refine tr_getK (k := 17) q25 d_TrustDeskModel_isSign_1 f_TrustDeskModel_198_13 ?_
            refine mv_iconst (v := 4) d_TrustDeskModel_isSign_4 (by decide) ?_
            have := mz_hi v26
            refine mv_icmp_neZ (tgt := 20) (a := v26.toInt) (b := 4) d_TrustDeskModel_isSign_5 (by decide) rfl (by decide) (fun b34 => absurd b34 (by omega)) (fun b34 => ?_)
            refine mv_aload_n d_TrustDeskModel_isSign_8 rfl rfl ?_
            refine tr_getK (k := 18) q30 d_TrustDeskModel_isSign_9 f_TrustDeskModel_201_13 ?_
            refine mv_iload_n d_TrustDeskModel_isSign_12 rfl rfl ?_
            have := mz_hi v31
            refine mv_icmp_neZ (tgt := 20) (a := v31.toInt) (b := 45) d_TrustDeskModel_isSign_13 (by decide) rfl (by decide) (fun b35 => ?_) (fun b35 => ?_)
            · refine mv_iconst (v := 0) d_TrustDeskModel_isSign_20 (by decide) ?_
              refine mv_iret d_TrustDeskModel_isSign_21 rfl (by decide) ?_
              refine mv_if_eq_t (tgt := 61) d_TrustDeskModel_sum_26 (by decide) (by decide) ?_
              exact mv_vret d_TrustDeskModel_sum_61 rfl ⟨_, I_16, rfl, kKR_16, kKE_16, (by have := kKR_16.1 15 _ _ rfl; have := kKR_16.1 16 _ _ rfl; have := kKR_16.1 19 _ _ rfl; have := kKE_16.f yS; omega), (by first | (have := Z918.s4 (by omega) (by omega); have hX := e19.symm.trans (p_lp_stop (show (p_su1 pb pn pa (p_op pb pn pa (r7 + 1))) s17 = s17 from if_neg (fun h9 => by omega))); rw [show p_sum pb pn pa (p_op pb pn pa (r7 + 1)) ps = s17 from (by exact hX)]; exact Z918) | (exfalso; have := kKR_16.1 15 _ _ rfl; have := kKR_16.1 16 _ _ rfl; have := kKR_16.1 19 _ _ rfl; have := kKE_16.f yS; omega))⟩
            · refine mv_iconst (v := 1) d_TrustDeskModel_isSign_16 (by decide) ?_
              refine mv_goto (tgt := 21) d_TrustDeskModel_isSign_17 (by decide) ?_
              refine mv_iret d_TrustDeskModel_isSign_21 rfl (by decide) ?_
              refine mv_if_eq_f (tgt := 61) d_TrustDeskModel_sum_26 (by decide) (by decide) ?_
              refine mv_aload_n d_TrustDeskModel_sum_29 rfl rfl ?_
              refine mv_bipush (v := 43) d_TrustDeskModel_sum_30 (by decide) ?_
              obtain ⟨_, b36, -⟩ := I_16.1 _ _ h_q0_16
              refine mv_callV (kc1 := 0) (ks1 := 0) (kc' := 0) (ks' := 0) (As := [.int 43]) (st9 := [.int 43, .ref o0]) d_TrustDeskModel_sum_32 lV_TrustDeskModel_234 b36 rfl (mj_enter (by decide) (Nat.le_of_ble_eq_true rfl) ?_) rfl (Nat.le_of_ble_eq_true rfl) (Nat.le_of_ble_eq_true rfl) (Nat.le_of_ble_eq_true rfl) (hst := rfl) (fun _ _ _ h => h)
              refine mv_aload_n d_TrustDeskModel_isSign_0 rfl rfl ?_
              refine tr_getK (k := 17) q25 d_TrustDeskModel_isSign_1 f_TrustDeskModel_198_13 ?_
              refine mv_iconst (v := 4) d_TrustDeskModel_isSign_4 (by decide) ?_
              have := mz_hi v26
              refine mv_icmp_neZ (tgt := 20) (a := v26.toInt) (b := 4) d_TrustDeskModel_isSign_5 (by decide) rfl (by decide) (fun b37 => absurd b37 (by omega)) (fun b37 => ?_)
              refine mv_aload_n d_TrustDeskModel_isSign_8 rfl rfl ?_
              refine tr_getK (k := 18) q30 d_TrustDeskModel_isSign_9 f_TrustDeskModel_201_13 ?_
              refine mv_iload_n d_TrustDeskModel_isSign_12 rfl rfl ?_
              have := mz_hi v31
              refine mv_icmp_neZ (tgt := 20) (a := v31.toInt) (b := 43) d_TrustDeskModel_isSign_13 (by decide) rfl (by decide) (fun b38 => ?_) (fun b38 => absurd b38 (by omega))
              refine mv_iconst (v := 0) d_TrustDeskModel_isSign_20 (by decide) ?_
              refine mv_iret d_TrustDeskModel_isSign_21 rfl (by decide) ?_
              refine mv_istore_n (lv' := [(1, .int 0), (0, .ref o0)]) d_TrustDeskModel_sum_35 rfl (by decide) rfl ?_
              refine mv_aload_n d_TrustDeskModel_sum_36 rfl rfl ?_
              obtain ⟨_, b45, -⟩ := I_16.1 _ _ h_q0_16
              refine mv_callV (kc' := 0) (ks' := 0) (As := []) (st9 := [.ref o0]) d_TrustDeskModel_sum_37 lV_TrustDeskModel_237 b45 rfl (tc_TrustDeskModel_next_x (d := (d + E + 9)) (x9 := x9) (o0 := o0) h_q0_16 kKR_16 Z918.p I_16.start) rfl (Nat.le_of_ble_eq_true rfl) (Nat.le_of_ble_eq_true rfl) (Nat.le_of_ble_eq_true rfl) (hst := rfl) (fun b39r M40 n41 b39 => ?_)
              obtain ⟨T42, J43, rfl, R46, f47, f48, f49⟩ := b39
              have I44 := I_16.call J43 (tm_sub (by decide)) (Or.inl rfl)
              have t50 := J43.up h_q0_16
              have z51 := (rv_c I_16 J43 (I_16.up h_o0) (k := 19) rfl)
              have z52 := (rv_c I_16 J43 (I_16.up h_o0) (k := 22) rfl)
              have h54 : rv M_16 o0 16 + 1 ≤ rv M_16 o0 15 := (by have := kKR_16.1 15 _ _ rfl; have := kKR_16.1 16 _ _ rfl; have := kKR_16.1 19 _ _ rfl; have := kKE_16.f yS; omega)
              have E53 : rE M0 M40 o0 1 1 := kKE_16.next f47 f48 (rv_c I_16 J43 (I_16.up h_o0) (k := 19) rfl) (rE_ha I_16 J43 (I_16.up h_o0) (by decide)) (e := 1) h54 (by decide)
              obtain ⟨s55, e56⟩ : ∃ s9 : p_S, p_nx s17 = s9 := ⟨_, rfl⟩
              rw [e56] at f49
              have := f49.w
              have q57 := J43.keep h_q0_16 (by decide) q21
              refine mv_aload_n d_TrustDeskModel_sum_40 rfl rfl ?_
              obtain ⟨_, b64, -⟩ := I44.1 _ _ t50
              refine mv_callV (kc' := 0) (ks' := 0) (As := []) (st9 := [.ref o0]) d_TrustDeskModel_sum_41 lV_TrustDeskModel_297 b64 rfl (tg_TrustDeskModel_product hK9 H_sum H_cond (d := d) (x9 := x9) (o0 := o0) t50 R46 E53.1 (by have := R46.1 15 _ _ rfl; have := R46.1 16 _ _ rfl; have := R46.1 19 _ _ rfl; have := E53.f yS; omega) (by have := R46.1 15 _ _ rfl; have := R46.1 16 _ _ rfl; have := R46.1 19 _ _ rfl; have := E53.f yS; omega) f49 I44.start) rfl (Nat.le_of_ble_eq_true rfl) (Nat.le_of_ble_eq_true rfl) (Nat.le_of_ble_eq_true rfl) (hst := rfl) (fun b58r M59 n60 b58 => ?_)
              obtain ⟨T61, J62, rfl, R65, f66, f67, f68⟩ := b58
              have I63 := I44.call J62 (tm_sub (by decide)) (Or.inl rfl)
              have t69 := J62.up t50
              have E70 : rE M0 M59 o0 2 1 := E53.trans f66 (by decide) (yR.2 5 _ _ rfl 44).1 (by decide) (by decide)
              have := f66.w
              obtain ⟨s71, e72⟩ : ∃ s9 : p_S, p_pro pb pn pa (p_op pb pn pa (r7 + 1)) s55 = s9 := ⟨_, rfl⟩
              rw [e72] at f68
              have := f68.w
              refine mv_aload_n d_TrustDeskModel_sum_44 rfl rfl ?_
              refine mv_iload_n d_TrustDeskModel_sum_45 rfl rfl ?_
              refine mv_if_eq_t (tgt := 53) d_TrustDeskModel_sum_46 (by decide) (by decide) ?_
              refine mv_bipush (v := (-2)) d_TrustDeskModel_sum_53 (by decide) ?_
              obtain ⟨_, b79, -⟩ := I63.1 _ _ t69
              have : ((-2) : Int32).toInt = (-2) := by decide
              refine mv_callV (kc' := 0) (ks' := 0) (As := [.int (-2)]) (st9 := [.int (-2), .ref o0]) d_TrustDeskModel_sum_55 lV_TrustDeskModel_279 b79 rfl (tc_TrustDeskModel_emits_x (d := (d + E + 9)) (x9 := x9) (o0 := o0) (x1 := (-2)) t69 R65 (by have := R65.1 15 _ _ rfl; have := R65.1 16 _ _ rfl; have := R65.1 19 _ _ rfl; have := E70.f yS; omega) (by decide) I63.start) rfl (Nat.le_of_ble_eq_true rfl) (Nat.le_of_ble_eq_true rfl) (Nat.le_of_ble_eq_true rfl) (hst := rfl) (fun b73r M74 n75 b73 => ?_)
              obtain ⟨T76, J77, rfl, R80, f81⟩ := b73
              have I78 := I63.call J77 (tm_sub (by decide)) (Or.inl rfl)
              have t82 := J77.up t69
              have z83 := (rv_c I63 J77 (I63.up h_o0) (k := 16) rfl)
              have z84 := (rv_c I63 J77 (I63.up h_o0) (k := 17) rfl)
              have z85 := (rv_c I63 J77 (I63.up h_o0) (k := 19) rfl)
              have z86 := (rv_c I63 J77 (I63.up h_o0) (k := 22) rfl)
              have E87 : rE M0 M74 o0 1 0 := E70.emit f81 (rE_hv I63 J77 (I63.up h_o0) 15 19 (by decide)) (yR.2 5 _ _ rfl 44).1 (by decide) (Or.inr (Or.inr ⟨by decide, by decide, by decide, by decide⟩)) (by decide)
              have Z988 : pO M74 o0 pb pn pa s71 := f68.same (rE_hv I63 J77 (I63.up h_o0) 14 20 (by decide)) (rv_c I63 J77 (I63.up h_o0) (k := 23) rfl) (ra_call I63 J77 (I63.up h_o0) (k := 13) rfl rfl rfl)
              refine mv_goto (tgt := 4) d_TrustDeskModel_sum_58 (by decide) ?_
              have T89 : ∃ s1 : p_S, pO M74 o0 pb pn pa s1 ∧ p_lp pn (p_su1 pb pn pa (p_op pb pn pa (r7 + 1))) s1 = p_sum pb pn pa (p_op pb pn pa (r7 + 1)) ps := ⟨s71, Z988, (by have st : (p_su1 pb pn pa (p_op pb pn pa (r7 + 1))) s17 = s71 := (by have := Z918.s4 (by omega) (by omega); rw [show (p_su1 pb pn pa (p_op pb pn pa (r7 + 1))) s17 = p_pro pb pn pa (p_op pb pn pa (r7 + 1)) (p_nx s17) from if_pos ⟨by omega, by omega⟩]; simp only [e56, e72]); rw [← st, p_P.go (p_su1_P (p_op_M _)) s17]; exact e19)⟩
              refine mv_locals (lv' := [(0, .ref o0)]) (by intro q hq; simp only [List.mem_cons, List.not_mem_nil, or_false] at hq; rcases hq with rfl <;> rfl) ?_
              exact (ih16 T76 M74 n75 I78 t82 (by have := R80.1 15 _ _ rfl; have := R80.1 16 _ _ rfl; have := R80.1 19 _ _ rfl; have := E87.f yS; first | omega | decide | exact fun h9 => absurd (by decide) h9) R80 E87 T89 (by have := R80.1 15 _ _ rfl; have := R80.1 16 _ _ rfl; have := R80.1 19 _ _ rfl; have := E87.f yS; omega))
          · refine mv_iconst (v := 1) d_TrustDeskModel_isSign_16 (by decide) ?_
            refine mv_goto (tgt := 21) d_TrustDeskModel_isSign_17 (by decide) ?_
            refine mv_iret d_TrustDeskModel_isSign_21 rfl (by decide) ?_
            refine mv_if_ne_t (tgt := 29) d_TrustDeskModel_sum_17 (by decide) (by decide) ?_
            refine mv_aload_n d_TrustDeskModel_sum_29 rfl rfl ?_
            refine mv_bipush (v := 43) d_TrustDeskModel_sum_30 (by decide) ?_
            obtain ⟨_, b90, -⟩ := I_16.1 _ _ h_q0_16
            refine mv_callV (kc1 := 0) (ks1 := 0) (kc' := 0) (ks' := 0) (As := [.int 43]) (st9 := [.int 43, .ref o0]) d_TrustDeskModel_sum_32 lV_TrustDeskModel_234 b90 rfl (mj_enter (by decide) (Nat.le_of_ble_eq_true rfl) ?_) rfl (Nat.le_of_ble_eq_true rfl) (Nat.le_of_ble_eq_true rfl) (Nat.le_of_ble_eq_true rfl) (hst := rfl) (fun _ _ _ h => h)
            refine mv_aload_n d_TrustDeskModel_isSign_0 rfl rfl ?_
            refine tr_getK (k := 17) q25 d_TrustDeskModel_isSign_1 f_TrustDeskModel_198_13 ?_
            refine mv_iconst (v := 4) d_TrustDeskModel_isSign_4 (by decide) ?_
            have := mz_hi v26
            refine mv_icmp_neZ (tgt := 20) (a := v26.toInt) (b := 4) d_TrustDeskModel_isSign_5 (by decide) rfl (by decide) (fun b91 => absurd b91 (by omega)) (fun b91 => ?_)
            refine mv_aload_n d_TrustDeskModel_isSign_8 rfl rfl ?_
            refine tr_getK (k := 18) q30 d_TrustDeskModel_isSign_9 f_TrustDeskModel_201_13 ?_
            refine mv_iload_n d_TrustDeskModel_isSign_12 rfl rfl ?_
            have := mz_hi v31
            refine mv_icmp_neZ (tgt := 20) (a := v31.toInt) (b := 43) d_TrustDeskModel_isSign_13 (by decide) rfl (by decide) (fun b92 => absurd b92 (by omega)) (fun b92 => ?_)
            refine mv_iconst (v := 1) d_TrustDeskModel_isSign_16 (by decide) ?_
            refine mv_goto (tgt := 21) d_TrustDeskModel_isSign_17 (by decide) ?_
            refine mv_iret d_TrustDeskModel_isSign_21 rfl (by decide) ?_
            refine mv_istore_n (lv' := [(1, .int 1), (0, .ref o0)]) d_TrustDeskModel_sum_35 rfl (by decide) rfl ?_
            refine mv_aload_n d_TrustDeskModel_sum_36 rfl rfl ?_
            obtain ⟨_, b99, -⟩ := I_16.1 _ _ h_q0_16
            refine mv_callV (kc' := 0) (ks' := 0) (As := []) (st9 := [.ref o0]) d_TrustDeskModel_sum_37 lV_TrustDeskModel_237 b99 rfl (tc_TrustDeskModel_next_x (d := (d + E + 9)) (x9 := x9) (o0 := o0) h_q0_16 kKR_16 Z918.p I_16.start) rfl (Nat.le_of_ble_eq_true rfl) (Nat.le_of_ble_eq_true rfl) (Nat.le_of_ble_eq_true rfl) (hst := rfl) (fun b93r M94 n95 b93 => ?_)
            obtain ⟨T96, J97, rfl, R100, f101, f102, f103⟩ := b93
            have I98 := I_16.call J97 (tm_sub (by decide)) (Or.inl rfl)
            have t104 := J97.up h_q0_16
            have z105 := (rv_c I_16 J97 (I_16.up h_o0) (k := 19) rfl)
            have z106 := (rv_c I_16 J97 (I_16.up h_o0) (k := 22) rfl)
            have h108 : rv M_16 o0 16 + 1 ≤ rv M_16 o0 15 := (by have := kKR_16.1 15 _ _ rfl; have := kKR_16.1 16 _ _ rfl; have := kKR_16.1 19 _ _ rfl; have := kKE_16.f yS; omega)
            have E107 : rE M0 M94 o0 1 1 := kKE_16.next f101 f102 (rv_c I_16 J97 (I_16.up h_o0) (k := 19) rfl) (rE_ha I_16 J97 (I_16.up h_o0) (by decide)) (e := 1) h108 (by decide)
            obtain ⟨s109, e110⟩ : ∃ s9 : p_S, p_nx s17 = s9 := ⟨_, rfl⟩
            rw [e110] at f103
            have := f103.w
            have q111 := J97.keep h_q0_16 (by decide) q21
            refine mv_aload_n d_TrustDeskModel_sum_40 rfl rfl ?_
            obtain ⟨_, b118, -⟩ := I98.1 _ _ t104
            refine mv_callV (kc' := 0) (ks' := 0) (As := []) (st9 := [.ref o0]) d_TrustDeskModel_sum_41 lV_TrustDeskModel_297 b118 rfl (tg_TrustDeskModel_product hK9 H_sum H_cond (d := d) (x9 := x9) (o0 := o0) t104 R100 E107.1 (by have := R100.1 15 _ _ rfl; have := R100.1 16 _ _ rfl; have := R100.1 19 _ _ rfl; have := E107.f yS; omega) (by have := R100.1 15 _ _ rfl; have := R100.1 16 _ _ rfl; have := R100.1 19 _ _ rfl; have := E107.f yS; omega) f103 I98.start) rfl (Nat.le_of_ble_eq_true rfl) (Nat.le_of_ble_eq_true rfl) (Nat.le_of_ble_eq_true rfl) (hst := rfl) (fun b112r M113 n114 b112 => ?_)
            obtain ⟨T115, J116, rfl, R119, f120, f121, f122⟩ := b112
            have I117 := I98.call J116 (tm_sub (by decide)) (Or.inl rfl)
            have t123 := J116.up t104
            have E124 : rE M0 M113 o0 2 1 := E107.trans f120 (by decide) (yR.2 5 _ _ rfl 44).1 (by decide) (by decide)
            have := f120.w
            obtain ⟨s125, e126⟩ : ∃ s9 : p_S, p_pro pb pn pa (p_op pb pn pa (r7 + 1)) s109 = s9 := ⟨_, rfl⟩
            rw [e126] at f122
            have := f122.w
            refine mv_aload_n d_TrustDeskModel_sum_44 rfl rfl ?_
            refine mv_iload_n d_TrustDeskModel_sum_45 rfl rfl ?_
            refine mv_if_eq_f (tgt := 53) d_TrustDeskModel_sum_46 (by decide) (by decide) ?_
            refine mv_iconst (v := (-1)) d_TrustDeskModel_sum_49 (by decide) ?_
            refine mv_goto (tgt := 55) d_TrustDeskModel_sum_50 (by decide) ?_
            obtain ⟨_, b133, -⟩ := I117.1 _ _ t123
            have : ((-1) : Int32).toInt = (-1) := by decide
            refine mv_callV (kc' := 0) (ks' := 0) (As := [.int (-1)]) (st9 := [.int (-1), .ref o0]) d_TrustDeskModel_sum_55 lV_TrustDeskModel_279 b133 rfl (tc_TrustDeskModel_emits_x (d := (d + E + 9)) (x9 := x9) (o0 := o0) (x1 := (-1)) t123 R119 (by have := R119.1 15 _ _ rfl; have := R119.1 16 _ _ rfl; have := R119.1 19 _ _ rfl; have := E124.f yS; omega) (by decide) I117.start) rfl (Nat.le_of_ble_eq_true rfl) (Nat.le_of_ble_eq_true rfl) (Nat.le_of_ble_eq_true rfl) (hst := rfl) (fun b127r M128 n129 b127 => ?_)
            obtain ⟨T130, J131, rfl, R134, f135⟩ := b127
            have I132 := I117.call J131 (tm_sub (by decide)) (Or.inl rfl)
            have t136 := J131.up t123
            have z137 := (rv_c I117 J131 (I117.up h_o0) (k := 16) rfl)
            have z138 := (rv_c I117 J131 (I117.up h_o0) (k := 17) rfl)
            have z139 := (rv_c I117 J131 (I117.up h_o0) (k := 19) rfl)
            have z140 := (rv_c I117 J131 (I117.up h_o0) (k := 22) rfl)
            have E141 : rE M0 M128 o0 1 0 := E124.emit f135 (rE_hv I117 J131 (I117.up h_o0) 15 19 (by decide)) (yR.2 5 _ _ rfl 44).1 (by decide) (Or.inr (Or.inr ⟨by decide, by decide, by decide, by decide⟩)) (by decide)
            have Z9142 : pO M128 o0 pb pn pa s125 := f122.same (rE_hv I117 J131 (I117.up h_o0) 14 20 (by decide)) (rv_c I117 J131 (I117.up h_o0) (k := 23) rfl) (ra_call I117 J131 (I117.up h_o0) (k := 13) rfl rfl rfl)
            refine mv_goto (tgt := 4) d_TrustDeskModel_sum_58 (by decide) ?_
            have T143 : ∃ s1 : p_S, pO M128 o0 pb pn pa s1 ∧ p_lp pn (p_su1 pb pn pa (p_op pb pn pa (r7 + 1))) s1 = p_sum pb pn pa (p_op pb pn pa (r7 + 1)) ps := ⟨s125, Z9142, (by have st : (p_su1 pb pn pa (p_op pb pn pa (r7 + 1))) s17 = s125 := (by have := Z918.s4 (by omega) (by omega); rw [show (p_su1 pb pn pa (p_op pb pn pa (r7 + 1))) s17 = p_pro pb pn pa (p_op pb pn pa (r7 + 1)) (p_nx s17) from if_pos ⟨by omega, by omega⟩]; simp only [e110, e126]); rw [← st, p_P.go (p_su1_P (p_op_M _)) s17]; exact e19)⟩
            refine mv_locals (lv' := [(0, .ref o0)]) (by intro q hq; simp only [List.mem_cons, List.not_mem_nil, or_false] at hq; rcases hq with rfl <;> rfl) ?_
            exact (ih16 T130 M128 n129 I132 t136 (by have := R134.1 15 _ _ rfl; have := R134.1 16 _ _ rfl; have := R134.1 19 _ _ rfl; have := E141.f yS; first | omega | decide | exact fun h9 => absurd (by decide) h9) R134 E141 T143 (by have := R134.1 15 _ _ rfl; have := R134.1 16 _ _ rfl; have := R134.1 19 _ _ rfl; have := E141.f yS; omega))
  have T144 : ∃ s1 : p_S, pO M2 o0 pb pn pa s1 ∧ p_lp pn (p_su1 pb pn pa (p_op pb pn pa (r7 + 1))) s1 = p_sum pb pn pa (p_op pb pn pa (r7 + 1)) ps := ⟨s14, f11, (by rw [← e15]; rfl)⟩
  exact mv_less (Nat.zero_le _) (Nat.zero_le _) (L4_16 4294967296 T4 M2 n3 I6 t12 (by have := R8.1 15 _ _ rfl; have := R8.1 16 _ _ rfl; have := R8.1 19 _ _ rfl; have := E13.f yS; first | omega | decide | exact fun h9 => absurd (by decide) h9) R8 E13 T144 (by have := R8.1 15 _ _ rfl; have := R8.1 16 _ _ rfl; have := R8.1 19 _ _ rfl; have := E13.f yS; omega))
set_option maxHeartbeats 100000000 in theorem tg_TrustDeskModel_compares {E r7 : Nat} {K K1 : Int} (hK9 : K1 = K + 1 ∧ 0 ≤ K ∧ K ≤ 3) (H_sum : ∀ {g : mj_G} {l : Launch} {d : Nat} {T0 : tm_H} {M0 : mj_M} {n0 x9 : Nat} {o0 : Nat} (h_o0 : T0 o0 = some (0, 13, 0)) (yR : rI M0 o0) (yT : rT M0 o0) (yS : rv M0 o0 19 = 0 → ra M0 o0 5 44 ≤ rv M0 o0 16) (yL : rv M0 o0 19 ≠ 0 ∨ (K1 ≤ rv M0 o0 22 ∧ rv M0 o0 22 ≤ K1)) {pb : Nat → Int} {pn : Nat} {pa : Int} {ps : p_S} (yO : pO M0 o0 pb pn pa ps) (I0 : tm_I tm_FT (tm_in w_TrustDeskModel_sum_q1_x) x9 T0 M0 n0 T0 M0 n0), mj_Met g l kY_TrustDeskModel_sum (d + E + 8) [.ref o0] M0 n0 0 0 (tm_Q tm_FT (tm_in w_TrustDeskModel_sum_q1_x) x9 T0 M0 n0 (fun r _ M => r = none ∧ rI M o0 ∧ (rE M0 M o0 1 0) ∧ (rv M o0 19 = 0 → rv M o0 22 = rv M0 o0 22) ∧ (pO M o0 pb pn pa (p_sum pb pn pa (p_op pb pn pa r7) ps))))) (H_cond : ∀ {g : mj_G} {l : Launch} {d : Nat} {T0 : tm_H} {M0 : mj_M} {n0 x9 : Nat} {o0 : Nat} (h_o0 : T0 o0 = some (0, 13, 0)) (yR : rI M0 o0) (yT : rT M0 o0) (yS : rv M0 o0 19 = 0 → ra M0 o0 5 44 ≤ rv M0 o0 16) (yL : rv M0 o0 19 ≠ 0 ∨ (K1 ≤ rv M0 o0 22 ∧ rv M0 o0 22 ≤ K1)) {pb : Nat → Int} {pn : Nat} {pa : Int} {ps : p_S} (yO : pO M0 o0 pb pn pa ps) (I0 : tm_I tm_FT (tm_in w_TrustDeskModel_cond_q1_x) x9 T0 M0 n0 T0 M0 n0), mj_Met g l kY_TrustDeskModel_cond (d + E + 12) [.ref o0] M0 n0 0 0 (tm_Q tm_FT (tm_in w_TrustDeskModel_cond_q1_x) x9 T0 M0 n0 (fun r _ M => r = none ∧ rI M o0 ∧ (rE M0 M o0 1 0) ∧ (rv M o0 19 = 0 → rv M o0 22 = rv M0 o0 22) ∧ (pO M o0 pb pn pa (p_con pb pn pa r7 (p_oc pb pn pa r7) ps))))) {g : mj_G} {l : Launch} {d : Nat} {T0 : tm_H} {M0 : mj_M} {n0 x9 : Nat} {o0 : Nat} (h_o0 : T0 o0 = some (0, 13, 0)) (yR : rI M0 o0) (yT : rT M0 o0) (yS : rv M0 o0 19 = 0 → ra M0 o0 5 44 ≤ rv M0 o0 16) (yL : rv M0 o0 19 ≠ 0 ∨ (K ≤ rv M0 o0 22 ∧ rv M0 o0 22 ≤ K)) {pb : Nat → Int} {pn : Nat} {pa : Int} {ps : p_S} (yO : pO M0 o0 pb pn pa ps) (I0 : tm_I tm_FT (tm_in w_TrustDeskModel_compares_q1_x) x9 T0 M0 n0 T0 M0 n0) : mj_Met g l kY_TrustDeskModel_compares (d + E + 12) [.ref o0] M0 n0 0 0 (tm_Q tm_FT (tm_in w_TrustDeskModel_compares_q1_x) x9 T0 M0 n0 (fun r _ M => r = none ∧ rI M o0 ∧ (rE M0 M o0 1 0) ∧ (rv M o0 19 = 0 → rv M o0 22 = rv M0 o0 22) ∧ (pO M o0 pb pn pa (p_cmp pb pn pa (r7 + 1) ps)))) := by
  refine mj_enter (by decide) (Nat.le_of_ble_eq_true rfl) ?_
  have yE0 := rE.rf yT
  have := yO.w
  refine mv_aload_n d_TrustDeskModel_compares_0 rfl rfl ?_
  obtain ⟨_, b7, -⟩ := I0.1 _ _ h_o0
  refine mv_callV (kc' := 0) (ks' := 0) (As := []) (st9 := [.ref o0]) d_TrustDeskModel_compares_1 lV_TrustDeskModel_288 b7 rfl (tg_TrustDeskModel_sum hK9 H_sum H_cond (d := d) (x9 := x9) (o0 := o0) h_o0 yR yE0.1 (by have := yR.1 15 _ _ rfl; have := yR.1 16 _ _ rfl; have := yR.1 19 _ _ rfl; have := yE0.f yS; omega) (by have := yR.1 15 _ _ rfl; have := yR.1 16 _ _ rfl; have := yR.1 19 _ _ rfl; have := yE0.f yS; omega) yO I0.start) rfl (Nat.le_of_ble_eq_true rfl) (Nat.le_of_ble_eq_true rfl) (Nat.le_of_ble_eq_true rfl) (hst := rfl) (fun b1r M2 n3 b1 => ?_)
  obtain ⟨T4, J5, rfl, R8, f9, f10, f11⟩ := b1
  have I6 := I0.call J5 (tm_sub (by decide)) (Or.inl rfl)
  have t12 := J5.up h_o0
  have E13 : rE M0 M2 o0 1 0 := yE0.trans f9 (by decide) (yR.2 5 _ _ rfl 44).1 (by decide) (by decide)
  have := f9.w
  obtain ⟨s14, e15⟩ : ∃ s9 : p_S, p_sum pb pn pa (p_op pb pn pa (r7 + 1)) ps = s9 := ⟨_, rfl⟩
  rw [e15] at f11
  have := f11.w
  refine mv_aload_n d_TrustDeskModel_compares_4 rfl rfl ?_
  obtain ⟨_, b16, -⟩ := I6.1 _ _ t12
  refine mv_callV (kc1 := 0) (ks1 := 0) (kc' := 0) (ks' := 0) (As := []) (st9 := [.ref o0]) d_TrustDeskModel_compares_5 lV_TrustDeskModel_230 b16 rfl (mj_enter (by decide) (Nat.le_of_ble_eq_true rfl) ?_) rfl (Nat.le_of_ble_eq_true rfl) (Nat.le_of_ble_eq_true rfl) (Nat.le_of_ble_eq_true rfl) (hst := rfl) (fun _ _ _ h => h)
  refine mv_aload_n d_TrustDeskModel_isWell_0 rfl rfl ?_
  obtain ⟨v18, q17⟩ := tm_atI I6 t12 (k := 19) rfl
  refine tr_getK q17 d_TrustDeskModel_isWell_1 f_TrustDeskModel_224_13 ?_
  have := R8.f (k := 19) q17 rfl
  have := tm_rv q17
  have := mz_hi v18
  refine mv_if_neZ (tgt := 11) (a := v18.toInt) d_TrustDeskModel_isWell_4 (by decide) rfl (fun b19 => ?_) (fun b19 => ?_)
  · refine mv_iconst (v := 0) d_TrustDeskModel_isWell_11 (by decide) ?_
    refine mv_iret d_TrustDeskModel_isWell_12 rfl (by decide) ?_
    refine mv_if_ne_f (tgt := 12) d_TrustDeskModel_compares_8 (by decide) (by decide) ?_
    exact mv_vret d_TrustDeskModel_compares_11 rfl ⟨_, I6, rfl, R8, E13, (by have := R8.1 15 _ _ rfl; have := R8.1 16 _ _ rfl; have := R8.1 19 _ _ rfl; have := E13.f yS; omega), (by first | (rw [show p_cmp pb pn pa (r7 + 1) ps = s14 from (by unfold p_cmp; (try simp only [e15]); ((repeat' (first | (with_reducible rfl) | split)) <;> (exfalso; omega)))]; exact f11) | (exfalso; have := R8.1 15 _ _ rfl; have := R8.1 16 _ _ rfl; have := R8.1 19 _ _ rfl; have := E13.f yS; omega))⟩
  · refine mv_iconst (v := 1) d_TrustDeskModel_isWell_7 (by decide) ?_
    refine mv_goto (tgt := 12) d_TrustDeskModel_isWell_8 (by decide) ?_
    refine mv_iret d_TrustDeskModel_isWell_12 rfl (by decide) ?_
    refine mv_if_ne_t (tgt := 12) d_TrustDeskModel_compares_8 (by decide) (by decide) ?_
    refine mv_aload_n d_TrustDeskModel_compares_12 rfl rfl ?_
    refine mv_bipush (v := 60) d_TrustDeskModel_compares_13 (by decide) ?_
    obtain ⟨_, b20, -⟩ := I6.1 _ _ t12
    refine mv_callV (kc1 := 0) (ks1 := 0) (kc' := 0) (ks' := 0) (As := [.int 60]) (st9 := [.int 60, .ref o0]) d_TrustDeskModel_compares_15 lV_TrustDeskModel_234 b20 rfl (mj_enter (by decide) (Nat.le_of_ble_eq_true rfl) ?_) rfl (Nat.le_of_ble_eq_true rfl) (Nat.le_of_ble_eq_true rfl) (Nat.le_of_ble_eq_true rfl) (hst := rfl) (fun _ _ _ h => h)
    refine mv_aload_n d_TrustDeskModel_isSign_0 rfl rfl ?_
    obtain ⟨v22, q21⟩ := tm_atI I6 t12 (k := 17) rfl
    refine tr_getK q21 d_TrustDeskModel_isSign_1 f_TrustDeskModel_198_13 ?_
    have := tm_rv q21
    refine mv_iconst (v := 4) d_TrustDeskModel_isSign_4 (by decide) ?_
    have := mz_hi v22
    refine mv_icmp_neZ (tgt := 20) (a := v22.toInt) (b := 4) d_TrustDeskModel_isSign_5 (by decide) rfl (by decide) (fun b23 => ?_) (fun b23 => ?_)
    · refine mv_iconst (v := 0) d_TrustDeskModel_isSign_20 (by decide) ?_
      refine mv_iret d_TrustDeskModel_isSign_21 rfl (by decide) ?_
      refine mv_if_eq_t (tgt := 26) d_TrustDeskModel_compares_18 (by decide) (by decide) ?_
      refine mv_aload_n d_TrustDeskModel_compares_26 rfl rfl ?_
      refine mv_bipush (v := 62) d_TrustDeskModel_compares_27 (by decide) ?_
      obtain ⟨_, b24, -⟩ := I6.1 _ _ t12
      refine mv_callV (kc1 := 0) (ks1 := 0) (kc' := 0) (ks' := 0) (As := [.int 62]) (st9 := [.int 62, .ref o0]) d_TrustDeskModel_compares_29 lV_TrustDeskModel_234 b24 rfl (mj_enter (by decide) (Nat.le_of_ble_eq_true rfl) ?_) rfl (Nat.le_of_ble_eq_true rfl) (Nat.le_of_ble_eq_true rfl) (Nat.le_of_ble_eq_true rfl) (hst := rfl) (fun _ _ _ h => h)
      refine mv_aload_n d_TrustDeskModel_isSign_0 rfl rfl ?_
      refine tr_getK (k := 17) q21 d_TrustDeskModel_isSign_1 f_TrustDeskModel_198_13 ?_
      refine mv_iconst (v := 4) d_TrustDeskModel_isSign_4 (by decide) ?_
      have := mz_hi v22
      refine mv_icmp_neZ (tgt := 20) (a := v22.toInt) (b := 4) d_TrustDeskModel_isSign_5 (by decide) rfl (by decide) (fun b25 => ?_) (fun b25 => absurd b25 (by omega))
      refine mv_iconst (v := 0) d_TrustDeskModel_isSign_20 (by decide) ?_
      refine mv_iret d_TrustDeskModel_isSign_21 rfl (by decide) ?_
      refine mv_if_eq_t (tgt := 40) d_TrustDeskModel_compares_32 (by decide) (by decide) ?_
      refine mv_aload_n d_TrustDeskModel_compares_40 rfl rfl ?_
      refine mv_bipush (v := 61) d_TrustDeskModel_compares_41 (by decide) ?_
      obtain ⟨_, b26, -⟩ := I6.1 _ _ t12
      refine mv_callV (kc1 := 0) (ks1 := 0) (kc' := 0) (ks' := 0) (As := [.int 61]) (st9 := [.int 61, .ref o0]) d_TrustDeskModel_compares_43 lV_TrustDeskModel_234 b26 rfl (mj_enter (by decide) (Nat.le_of_ble_eq_true rfl) ?_) rfl (Nat.le_of_ble_eq_true rfl) (Nat.le_of_ble_eq_true rfl) (Nat.le_of_ble_eq_true rfl) (hst := rfl) (fun _ _ _ h => h)
      refine mv_aload_n d_TrustDeskModel_isSign_0 rfl rfl ?_
      refine tr_getK (k := 17) q21 d_TrustDeskModel_isSign_1 f_TrustDeskModel_198_13 ?_
      refine mv_iconst (v := 4) d_TrustDeskModel_isSign_4 (by decide) ?_
      have := mz_hi v22
      refine mv_icmp_neZ (tgt := 20) (a := v22.toInt) (b := 4) d_TrustDeskModel_isSign_5 (by decide) rfl (by decide) (fun b27 => ?_) (fun b27 => absurd b27 (by omega))
      refine mv_iconst (v := 0) d_TrustDeskModel_isSign_20 (by decide) ?_
      refine mv_iret d_TrustDeskModel_isSign_21 rfl (by decide) ?_
      refine mv_if_eq_t (tgt := 54) d_TrustDeskModel_compares_46 (by decide) (by decide) ?_
      refine mv_iconst (v := 0) d_TrustDeskModel_compares_54 (by decide) ?_
      refine mv_istore_n (lv' := [(1, .int 0), (0, .ref o0)]) d_TrustDeskModel_compares_55 rfl (by decide) rfl ?_
      refine mv_iload_n d_TrustDeskModel_compares_56 rfl rfl ?_
      refine mv_if_ne_f (tgt := 65) d_TrustDeskModel_compares_57 (by decide) (by decide) ?_
      refine mv_aload_n d_TrustDeskModel_compares_60 rfl rfl ?_
      refine mv_iconst (v := 1) d_TrustDeskModel_compares_61 (by decide) ?_
      obtain ⟨_, b34, -⟩ := I6.1 _ _ t12
      have : (1 : Int32).toInt = 1 := by decide
      refine mv_callV (kc' := 0) (ks' := 0) (As := [.int 1]) (st9 := [.int 1, .ref o0]) d_TrustDeskModel_compares_62 lV_TrustDeskModel_240 b34 rfl (tc_TrustDeskModel_fails_x (d := (d + E + 11)) (x9 := x9) (o0 := o0) (x1 := 1) t12 R8 (by decide) f11 I6.start) rfl (Nat.le_of_ble_eq_true rfl) (Nat.le_of_ble_eq_true rfl) (Nat.le_of_ble_eq_true rfl) (hst := rfl) (fun b28r M29 n30 b28 => ?_)
      obtain ⟨T31, J32, rfl, R35, f36, f37⟩ := b28
      have I33 := I6.call J32 (tm_sub (by decide)) (Or.inl rfl)
      have t38 := J32.up t12
      have z39 := (rv_c I6 J32 (I6.up h_o0) (k := 16) rfl)
      have z40 := (rv_c I6 J32 (I6.up h_o0) (k := 17) rfl)
      have z41 := (rv_c I6 J32 (I6.up h_o0) (k := 22) rfl)
      have E42 : rE M0 M29 o0 1 0 := E13.fails (rE_hv I6 J32 (I6.up h_o0) 15 18 (by decide)) (rE_ha I6 J32 (I6.up h_o0) (by decide)) f36 1 0
      rw [show (1 : Int32).toInt = 1 from by decide] at f37
      obtain ⟨s43, e44⟩ : ∃ s9 : p_S, p_fl pb pn 1 s14 = s9 := ⟨_, rfl⟩
      rw [e44] at f37
      have := f37.w
      have q45 := J32.keep t12 (by decide) q21
      refine mv_aload_n d_TrustDeskModel_compares_65 rfl rfl ?_
      obtain ⟨_, b46, -⟩ := I33.1 _ _ t38
      refine mv_callV (kc1 := 0) (ks1 := 0) (kc' := 0) (ks' := 0) (As := []) (st9 := [.ref o0]) d_TrustDeskModel_compares_66 lV_TrustDeskModel_230 b46 rfl (mj_enter (by decide) (Nat.le_of_ble_eq_true rfl) ?_) rfl (Nat.le_of_ble_eq_true rfl) (Nat.le_of_ble_eq_true rfl) (Nat.le_of_ble_eq_true rfl) (hst := rfl) (fun _ _ _ h => h)
      refine mv_aload_n d_TrustDeskModel_isWell_0 rfl rfl ?_
      obtain ⟨v48, q47⟩ := tm_atI I33 t38 (k := 19) rfl
      refine tr_getK q47 d_TrustDeskModel_isWell_1 f_TrustDeskModel_224_13 ?_
      have := R35.f (k := 19) q47 rfl
      have := tm_rv q47
      have := mz_hi v48
      refine mv_if_neZ (tgt := 11) (a := v48.toInt) d_TrustDeskModel_isWell_4 (by decide) rfl (fun b49 => ?_) (fun b49 => ?_)
      · refine mv_iconst (v := 0) d_TrustDeskModel_isWell_11 (by decide) ?_
        refine mv_iret d_TrustDeskModel_isWell_12 rfl (by decide) ?_
        refine mv_if_ne_f (tgt := 73) d_TrustDeskModel_compares_69 (by decide) (by decide) ?_
        exact mv_vret d_TrustDeskModel_compares_72 rfl ⟨_, I33, rfl, R35, E42, (by have := R35.1 15 _ _ rfl; have := R35.1 16 _ _ rfl; have := R35.1 19 _ _ rfl; have := E42.f yS; omega), (by first | (have := f11.n4 (by omega) (by omega); rw [show p_cmp pb pn pa (r7 + 1) ps = s43 from (by unfold p_cmp; (try simp only [e15, e44]); ((repeat' (first | (with_reducible rfl) | split)) <;> (exfalso; omega)))]; exact f37) | (exfalso; have := R35.1 15 _ _ rfl; have := R35.1 16 _ _ rfl; have := R35.1 19 _ _ rfl; have := E42.f yS; omega))⟩
      · refine mv_iconst (v := 1) d_TrustDeskModel_isWell_7 (by decide) ?_
        refine mv_goto (tgt := 12) d_TrustDeskModel_isWell_8 (by decide) ?_
        refine mv_iret d_TrustDeskModel_isWell_12 rfl (by decide) ?_
        refine mv_if_ne_t (tgt := 73) d_TrustDeskModel_compares_69 (by decide) (by decide) ?_
        refine mv_aload_n d_TrustDeskModel_compares_73 rfl rfl ?_
        obtain ⟨_, b56, -⟩ := I33.1 _ _ t38
        refine mv_callV (kc' := 0) (ks' := 0) (As := []) (st9 := [.ref o0]) d_TrustDeskModel_compares_74 lV_TrustDeskModel_237 b56 rfl (tc_TrustDeskModel_next_x (d := (d + E + 10)) (x9 := x9) (o0 := o0) t38 R35 f37.p I33.start) rfl (Nat.le_of_ble_eq_true rfl) (Nat.le_of_ble_eq_true rfl) (Nat.le_of_ble_eq_true rfl) (hst := rfl) (fun b50r M51 n52 b50 => ?_)
        obtain ⟨T53, J54, rfl, R57, f58, f59, f60⟩ := b50
        have I55 := I33.call J54 (tm_sub (by decide)) (Or.inl rfl)
        have t61 := J54.up t38
        have z62 := (rv_c I33 J54 (I33.up h_o0) (k := 19) rfl)
        have z63 := (rv_c I33 J54 (I33.up h_o0) (k := 22) rfl).trans z41
        have h65 : rv M29 o0 16 + 1 ≤ rv M29 o0 15 := (by have := R35.1 15 _ _ rfl; have := R35.1 16 _ _ rfl; have := R35.1 19 _ _ rfl; have := E42.f yS; omega)
        have E64 : rE M0 M51 o0 1 1 := E42.next f58 f59 (rv_c I33 J54 (I33.up h_o0) (k := 19) rfl) (rE_ha I33 J54 (I33.up h_o0) (by decide)) (e := 1) h65 (by decide)
        obtain ⟨s66, e67⟩ : ∃ s9 : p_S, p_nx s43 = s9 := ⟨_, rfl⟩
        rw [e67] at f60
        have := f60.w
        clear z41
        have q68 := J54.keep t38 (by decide) q47
        refine mv_aload_n d_TrustDeskModel_compares_77 rfl rfl ?_
        obtain ⟨_, b75, -⟩ := I55.1 _ _ t61
        refine mv_callV (kc' := 0) (ks' := 0) (As := []) (st9 := [.ref o0]) d_TrustDeskModel_compares_78 lV_TrustDeskModel_288 b75 rfl (tg_TrustDeskModel_sum hK9 H_sum H_cond (d := d) (x9 := x9) (o0 := o0) t61 R57 E64.1 (by have := R57.1 15 _ _ rfl; have := R57.1 16 _ _ rfl; have := R57.1 19 _ _ rfl; have := E64.f yS; omega) (by have := R57.1 15 _ _ rfl; have := R57.1 16 _ _ rfl; have := R57.1 19 _ _ rfl; have := E64.f yS; omega) f60 I55.start) rfl (Nat.le_of_ble_eq_true rfl) (Nat.le_of_ble_eq_true rfl) (Nat.le_of_ble_eq_true rfl) (hst := rfl) (fun b69r M70 n71 b69 => ?_)
        obtain ⟨T72, J73, rfl, R76, f77, f78, f79⟩ := b69
        have I74 := I55.call J73 (tm_sub (by decide)) (Or.inl rfl)
        have t80 := J73.up t61
        have E81 : rE M0 M70 o0 2 1 := E64.trans f77 (by decide) (yR.2 5 _ _ rfl 44).1 (by decide) (by decide)
        have := f77.w
        obtain ⟨s82, e83⟩ : ∃ s9 : p_S, p_sum pb pn pa (p_op pb pn pa (r7 + 1)) s66 = s9 := ⟨_, rfl⟩
        rw [e83] at f79
        have := f79.w
        refine mv_aload_n d_TrustDeskModel_compares_81 rfl rfl ?_
        refine mv_iload_n d_TrustDeskModel_compares_82 rfl rfl ?_
        obtain ⟨_, b90, -⟩ := I74.1 _ _ t80
        have : (0 : Int32).toInt = 0 := by decide
        refine mv_callV (kc' := 0) (ks' := 0) (As := [.int 0]) (st9 := [.int 0, .ref o0]) d_TrustDeskModel_compares_83 lV_TrustDeskModel_279 b90 rfl (tc_TrustDeskModel_emits_x (d := (d + E + 10)) (x9 := x9) (o0 := o0) (x1 := 0) t80 R76 (by have := R76.1 15 _ _ rfl; have := R76.1 16 _ _ rfl; have := R76.1 19 _ _ rfl; have := E81.f yS; omega) (by decide) I74.start) rfl (Nat.le_of_ble_eq_true rfl) (Nat.le_of_ble_eq_true rfl) (Nat.le_of_ble_eq_true rfl) (hst := rfl) (fun b84r M85 n86 b84 => ?_)
        obtain ⟨T87, J88, rfl, R91, f92⟩ := b84
        have I89 := I74.call J88 (tm_sub (by decide)) (Or.inl rfl)
        have t93 := J88.up t80
        have z94 := (rv_c I74 J88 (I74.up h_o0) (k := 16) rfl)
        have z95 := (rv_c I74 J88 (I74.up h_o0) (k := 17) rfl)
        have z96 := (rv_c I74 J88 (I74.up h_o0) (k := 19) rfl)
        have z97 := (rv_c I74 J88 (I74.up h_o0) (k := 22) rfl)
        have E98 : rE M0 M85 o0 3 0 := E81.emit f92 (rE_hv I74 J88 (I74.up h_o0) 15 19 (by decide)) (yR.2 5 _ _ rfl 44).1 (by decide) (Or.inl ⟨by have := R76.1 15 _ _ rfl; have := R76.1 16 _ _ rfl; have := R76.1 19 _ _ rfl; have := E81.f yS; omega, by decide⟩) (by decide)
        have Z999 : pO M85 o0 pb pn pa s82 := f79.same (rE_hv I74 J88 (I74.up h_o0) 14 20 (by decide)) (rv_c I74 J88 (I74.up h_o0) (k := 23) rfl) (ra_call I74 J88 (I74.up h_o0) (k := 13) rfl rfl rfl)
        exact mv_vret d_TrustDeskModel_compares_86 rfl ⟨_, I89, rfl, R91, E98.vac (by have := R91.1 15 _ _ rfl; have := R91.1 16 _ _ rfl; have := R91.1 19 _ _ rfl; have := E98.f yS; omega) 1 0, (by have := R91.1 15 _ _ rfl; have := R91.1 16 _ _ rfl; have := R91.1 19 _ _ rfl; have := E98.f yS; omega), (by first | (have := f11.n4 (by omega) (by omega); rw [show p_cmp pb pn pa (r7 + 1) ps = s82 from (by unfold p_cmp; (try simp only [e15, e44, e67, e83]); ((repeat' (first | (with_reducible rfl) | split)) <;> (exfalso; omega)))]; exact Z999) | (exfalso; have := R91.1 15 _ _ rfl; have := R91.1 16 _ _ rfl; have := R91.1 19 _ _ rfl; have := E98.f yS; omega))⟩
    · refine mv_aload_n d_TrustDeskModel_isSign_8 rfl rfl ?_
      obtain ⟨v101, q100⟩ := tm_atI I6 t12 (k := 18) rfl
      refine tr_getK q100 d_TrustDeskModel_isSign_9 f_TrustDeskModel_201_13 ?_
      have := R8.f (k := 18) q100 rfl
      have := tm_rv q100
      refine mv_iload_n d_TrustDeskModel_isSign_12 rfl rfl ?_
      have := mz_hi v101
      refine mv_icmp_neZ (tgt := 20) (a := v101.toInt) (b := 60) d_TrustDeskModel_isSign_13 (by decide) rfl (by decide) (fun b102 => ?_) (fun b102 => ?_)
      · refine mv_iconst (v := 0) d_TrustDeskModel_isSign_20 (by decide) ?_
        refine mv_iret d_TrustDeskModel_isSign_21 rfl (by decide) ?_
        refine mv_if_eq_t (tgt := 26) d_TrustDeskModel_compares_18 (by decide) (by decide) ?_
        refine mv_aload_n d_TrustDeskModel_compares_26 rfl rfl ?_
        refine mv_bipush (v := 62) d_TrustDeskModel_compares_27 (by decide) ?_
        obtain ⟨_, b103, -⟩ := I6.1 _ _ t12
        refine mv_callV (kc1 := 0) (ks1 := 0) (kc' := 0) (ks' := 0) (As := [.int 62]) (st9 := [.int 62, .ref o0]) d_TrustDeskModel_compares_29 lV_TrustDeskModel_234 b103 rfl (mj_enter (by decide) (Nat.le_of_ble_eq_true rfl) ?_) rfl (Nat.le_of_ble_eq_true rfl) (Nat.le_of_ble_eq_true rfl) (Nat.le_of_ble_eq_true rfl) (hst := rfl) (fun _ _ _ h => h)
        refine mv_aload_n d_TrustDeskModel_isSign_0 rfl rfl ?_
        refine tr_getK (k := 17) q21 d_TrustDeskModel_isSign_1 f_TrustDeskModel_198_13 ?_
        refine mv_iconst (v := 4) d_TrustDeskModel_isSign_4 (by decide) ?_
        have := mz_hi v22
        refine mv_icmp_neZ (tgt := 20) (a := v22.toInt) (b := 4) d_TrustDeskModel_isSign_5 (by decide) rfl (by decide) (fun b104 => absurd b104 (by omega)) (fun b104 => ?_)
        refine mv_aload_n d_TrustDeskModel_isSign_8 rfl rfl ?_
        refine tr_getK (k := 18) q100 d_TrustDeskModel_isSign_9 f_TrustDeskModel_201_13 ?_
        refine mv_iload_n d_TrustDeskModel_isSign_12 rfl rfl ?_
        have := mz_hi v101
        refine mv_icmp_neZ (tgt := 20) (a := v101.toInt) (b := 62) d_TrustDeskModel_isSign_13 (by decide) rfl (by decide) (fun b105 => ?_) (fun b105 => ?_)
        · refine mv_iconst (v := 0) d_TrustDeskModel_isSign_20 (by decide) ?_
          refine mv_iret d_TrustDeskModel_isSign_21 rfl (by decide) ?_
          refine mv_if_eq_t (tgt := 40) d_TrustDeskModel_compares_32 (by decide) (by decide) ?_
          refine mv_aload_n d_TrustDeskModel_compares_40 rfl rfl ?_
          refine mv_bipush (v := 61) d_TrustDeskModel_compares_41 (by decide) ?_
          obtain ⟨_, b106, -⟩ := I6.1 _ _ t12
          refine mv_callV (kc1 := 0) (ks1 := 0) (kc' := 0) (ks' := 0) (As := [.int 61]) (st9 := [.int 61, .ref o0]) d_TrustDeskModel_compares_43 lV_TrustDeskModel_234 b106 rfl (mj_enter (by decide) (Nat.le_of_ble_eq_true rfl) ?_) rfl (Nat.le_of_ble_eq_true rfl) (Nat.le_of_ble_eq_true rfl) (Nat.le_of_ble_eq_true rfl) (hst := rfl) (fun _ _ _ h => h)
          refine mv_aload_n d_TrustDeskModel_isSign_0 rfl rfl ?_
          refine tr_getK (k := 17) q21 d_TrustDeskModel_isSign_1 f_TrustDeskModel_198_13 ?_
          refine mv_iconst (v := 4) d_TrustDeskModel_isSign_4 (by decide) ?_
          have := mz_hi v22
          refine mv_icmp_neZ (tgt := 20) (a := v22.toInt) (b := 4) d_TrustDeskModel_isSign_5 (by decide) rfl (by decide) (fun b107 => absurd b107 (by omega)) (fun b107 => ?_)
          refine mv_aload_n d_TrustDeskModel_isSign_8 rfl rfl ?_
          refine tr_getK (k := 18) q100 d_TrustDeskModel_isSign_9 f_TrustDeskModel_201_13 ?_
          refine mv_iload_n d_TrustDeskModel_isSign_12 rfl rfl ?_
          have := mz_hi v101
          refine mv_icmp_neZ (tgt := 20) (a := v101.toInt) (b := 61) d_TrustDeskModel_isSign_13 (by decide) rfl (by decide) (fun b108 => ?_) (fun b108 => ?_)
          · refine mv_iconst (v := 0) d_TrustDeskModel_isSign_20 (by decide) ?_
            refine mv_iret d_TrustDeskModel_isSign_21 rfl (by decide) ?_
            refine mv_if_eq_t (tgt := 54) d_TrustDeskModel_compares_46 (by decide) (by decide) ?_
            refine mv_iconst (v := 0) d_TrustDeskModel_compares_54 (by decide) ?_
            refine mv_istore_n (lv' := [(1, .int 0), (0, .ref o0)]) d_TrustDeskModel_compares_55 rfl (by decide) rfl ?_
            refine mv_iload_n d_TrustDeskModel_compares_56 rfl rfl ?_
            refine mv_if_ne_f (tgt := 65) d_TrustDeskModel_compares_57 (by decide) (by decide) ?_
            refine mv_aload_n d_TrustDeskModel_compares_60 rfl rfl ?_
            refine mv_iconst (v := 1) d_TrustDeskModel_compares_61 (by decide) ?_
            obtain ⟨_, b115, -⟩ := I6.1 _ _ t12
            have : (1 : Int32).toInt = 1 := by decide
            refine mv_callV (kc' := 0) (ks' := 0) (As := [.int 1]) (st9 := [.int 1, .ref o0]) d_TrustDeskModel_compares_62 lV_TrustDeskModel_240 b115 rfl (tc_TrustDeskModel_fails_x (d := (d + E + 11)) (x9 := x9) (o0 := o0) (x1 := 1) t12 R8 (by decide) f11 I6.start) rfl (Nat.le_of_ble_eq_true rfl) (Nat.le_of_ble_eq_true rfl) (Nat.le_of_ble_eq_true rfl) (hst := rfl) (fun b109r M110 n111 b109 => ?_)
            obtain ⟨T112, J113, rfl, R116, f117, f118⟩ := b109
            have I114 := I6.call J113 (tm_sub (by decide)) (Or.inl rfl)
            have t119 := J113.up t12
            have z120 := (rv_c I6 J113 (I6.up h_o0) (k := 16) rfl)
            have z121 := (rv_c I6 J113 (I6.up h_o0) (k := 17) rfl)
            have z122 := (rv_c I6 J113 (I6.up h_o0) (k := 22) rfl)
            have E123 : rE M0 M110 o0 1 0 := E13.fails (rE_hv I6 J113 (I6.up h_o0) 15 18 (by decide)) (rE_ha I6 J113 (I6.up h_o0) (by decide)) f117 1 0
            rw [show (1 : Int32).toInt = 1 from by decide] at f118
            obtain ⟨s124, e125⟩ : ∃ s9 : p_S, p_fl pb pn 1 s14 = s9 := ⟨_, rfl⟩
            rw [e125] at f118
            have := f118.w
            have q126 := J113.keep t12 (by decide) q21
            have q127 := J113.keep t12 (by decide) q100
            refine mv_aload_n d_TrustDeskModel_compares_65 rfl rfl ?_
            obtain ⟨_, b128, -⟩ := I114.1 _ _ t119
            refine mv_callV (kc1 := 0) (ks1 := 0) (kc' := 0) (ks' := 0) (As := []) (st9 := [.ref o0]) d_TrustDeskModel_compares_66 lV_TrustDeskModel_230 b128 rfl (mj_enter (by decide) (Nat.le_of_ble_eq_true rfl) ?_) rfl (Nat.le_of_ble_eq_true rfl) (Nat.le_of_ble_eq_true rfl) (Nat.le_of_ble_eq_true rfl) (hst := rfl) (fun _ _ _ h => h)
            refine mv_aload_n d_TrustDeskModel_isWell_0 rfl rfl ?_
            obtain ⟨v130, q129⟩ := tm_atI I114 t119 (k := 19) rfl
            refine tr_getK q129 d_TrustDeskModel_isWell_1 f_TrustDeskModel_224_13 ?_
            have := R116.f (k := 19) q129 rfl
            have := tm_rv q129
            have := mz_hi v130
            refine mv_if_neZ (tgt := 11) (a := v130.toInt) d_TrustDeskModel_isWell_4 (by decide) rfl (fun b131 => ?_) (fun b131 => ?_)
            · refine mv_iconst (v := 0) d_TrustDeskModel_isWell_11 (by decide) ?_
              refine mv_iret d_TrustDeskModel_isWell_12 rfl (by decide) ?_
              refine mv_if_ne_f (tgt := 73) d_TrustDeskModel_compares_69 (by decide) (by decide) ?_
              exact mv_vret d_TrustDeskModel_compares_72 rfl ⟨_, I114, rfl, R116, E123, (by have := R116.1 15 _ _ rfl; have := R116.1 16 _ _ rfl; have := R116.1 19 _ _ rfl; have := E123.f yS; omega), (by first | (have := f11.s4 (by omega) (by omega); rw [show p_cmp pb pn pa (r7 + 1) ps = s124 from (by unfold p_cmp; (try simp only [e15, e125]); ((repeat' (first | (with_reducible rfl) | split)) <;> (exfalso; omega)))]; exact f118) | (exfalso; have := R116.1 15 _ _ rfl; have := R116.1 16 _ _ rfl; have := R116.1 19 _ _ rfl; have := E123.f yS; omega))⟩
            · refine mv_iconst (v := 1) d_TrustDeskModel_isWell_7 (by decide) ?_
              refine mv_goto (tgt := 12) d_TrustDeskModel_isWell_8 (by decide) ?_
              refine mv_iret d_TrustDeskModel_isWell_12 rfl (by decide) ?_
              refine mv_if_ne_t (tgt := 73) d_TrustDeskModel_compares_69 (by decide) (by decide) ?_
              refine mv_aload_n d_TrustDeskModel_compares_73 rfl rfl ?_
              obtain ⟨_, b138, -⟩ := I114.1 _ _ t119
              refine mv_callV (kc' := 0) (ks' := 0) (As := []) (st9 := [.ref o0]) d_TrustDeskModel_compares_74 lV_TrustDeskModel_237 b138 rfl (tc_TrustDeskModel_next_x (d := (d + E + 10)) (x9 := x9) (o0 := o0) t119 R116 f118.p I114.start) rfl (Nat.le_of_ble_eq_true rfl) (Nat.le_of_ble_eq_true rfl) (Nat.le_of_ble_eq_true rfl) (hst := rfl) (fun b132r M133 n134 b132 => ?_)
              obtain ⟨T135, J136, rfl, R139, f140, f141, f142⟩ := b132
              have I137 := I114.call J136 (tm_sub (by decide)) (Or.inl rfl)
              have t143 := J136.up t119
              have z144 := (rv_c I114 J136 (I114.up h_o0) (k := 19) rfl)
              have z145 := (rv_c I114 J136 (I114.up h_o0) (k := 22) rfl).trans z122
              have h147 : rv M110 o0 16 + 1 ≤ rv M110 o0 15 := (by have := R116.1 15 _ _ rfl; have := R116.1 16 _ _ rfl; have := R116.1 19 _ _ rfl; have := E123.f yS; omega)
              have E146 : rE M0 M133 o0 1 1 := E123.next f140 f141 (rv_c I114 J136 (I114.up h_o0) (k := 19) rfl) (rE_ha I114 J136 (I114.up h_o0) (by decide)) (e := 1) h147 (by decide)
              obtain ⟨s148, e149⟩ : ∃ s9 : p_S, p_nx s124 = s9 := ⟨_, rfl⟩
              rw [e149] at f142
              have := f142.w
              clear z122
              have q150 := J136.keep t119 (by decide) q129
              refine mv_aload_n d_TrustDeskModel_compares_77 rfl rfl ?_
              obtain ⟨_, b157, -⟩ := I137.1 _ _ t143
              refine mv_callV (kc' := 0) (ks' := 0) (As := []) (st9 := [.ref o0]) d_TrustDeskModel_compares_78 lV_TrustDeskModel_288 b157 rfl (tg_TrustDeskModel_sum hK9 H_sum H_cond (d := d) (x9 := x9) (o0 := o0) t143 R139 E146.1 (by have := R139.1 15 _ _ rfl; have := R139.1 16 _ _ rfl; have := R139.1 19 _ _ rfl; have := E146.f yS; omega) (by have := R139.1 15 _ _ rfl; have := R139.1 16 _ _ rfl; have := R139.1 19 _ _ rfl; have := E146.f yS; omega) f142 I137.start) rfl (Nat.le_of_ble_eq_true rfl) (Nat.le_of_ble_eq_true rfl) (Nat.le_of_ble_eq_true rfl) (hst := rfl) (fun b151r M152 n153 b151 => ?_)
              obtain ⟨T154, J155, rfl, R158, f159, f160, f161⟩ := b151
              have I156 := I137.call J155 (tm_sub (by decide)) (Or.inl rfl)
              have t162 := J155.up t143
              have E163 : rE M0 M152 o0 2 1 := E146.trans f159 (by decide) (yR.2 5 _ _ rfl 44).1 (by decide) (by decide)
              have := f159.w
              obtain ⟨s164, e165⟩ : ∃ s9 : p_S, p_sum pb pn pa (p_op pb pn pa (r7 + 1)) s148 = s9 := ⟨_, rfl⟩
              rw [e165] at f161
              have := f161.w
              refine mv_aload_n d_TrustDeskModel_compares_81 rfl rfl ?_
              refine mv_iload_n d_TrustDeskModel_compares_82 rfl rfl ?_
              obtain ⟨_, b172, -⟩ := I156.1 _ _ t162
              have : (0 : Int32).toInt = 0 := by decide
              refine mv_callV (kc' := 0) (ks' := 0) (As := [.int 0]) (st9 := [.int 0, .ref o0]) d_TrustDeskModel_compares_83 lV_TrustDeskModel_279 b172 rfl (tc_TrustDeskModel_emits_x (d := (d + E + 10)) (x9 := x9) (o0 := o0) (x1 := 0) t162 R158 (by have := R158.1 15 _ _ rfl; have := R158.1 16 _ _ rfl; have := R158.1 19 _ _ rfl; have := E163.f yS; omega) (by decide) I156.start) rfl (Nat.le_of_ble_eq_true rfl) (Nat.le_of_ble_eq_true rfl) (Nat.le_of_ble_eq_true rfl) (hst := rfl) (fun b166r M167 n168 b166 => ?_)
              obtain ⟨T169, J170, rfl, R173, f174⟩ := b166
              have I171 := I156.call J170 (tm_sub (by decide)) (Or.inl rfl)
              have t175 := J170.up t162
              have z176 := (rv_c I156 J170 (I156.up h_o0) (k := 16) rfl)
              have z177 := (rv_c I156 J170 (I156.up h_o0) (k := 17) rfl)
              have z178 := (rv_c I156 J170 (I156.up h_o0) (k := 19) rfl)
              have z179 := (rv_c I156 J170 (I156.up h_o0) (k := 22) rfl)
              have E180 : rE M0 M167 o0 3 0 := E163.emit f174 (rE_hv I156 J170 (I156.up h_o0) 15 19 (by decide)) (yR.2 5 _ _ rfl 44).1 (by decide) (Or.inl ⟨by have := R158.1 15 _ _ rfl; have := R158.1 16 _ _ rfl; have := R158.1 19 _ _ rfl; have := E163.f yS; omega, by decide⟩) (by decide)
              have Z9181 : pO M167 o0 pb pn pa s164 := f161.same (rE_hv I156 J170 (I156.up h_o0) 14 20 (by decide)) (rv_c I156 J170 (I156.up h_o0) (k := 23) rfl) (ra_call I156 J170 (I156.up h_o0) (k := 13) rfl rfl rfl)
              exact mv_vret d_TrustDeskModel_compares_86 rfl ⟨_, I171, rfl, R173, E180.vac (by have := R173.1 15 _ _ rfl; have := R173.1 16 _ _ rfl; have := R173.1 19 _ _ rfl; have := E180.f yS; omega) 1 0, (by have := R173.1 15 _ _ rfl; have := R173.1 16 _ _ rfl; have := R173.1 19 _ _ rfl; have := E180.f yS; omega), (by first | (have := f11.s4 (by omega) (by omega); rw [show p_cmp pb pn pa (r7 + 1) ps = s164 from (by unfold p_cmp; (try simp only [e15, e125, e149, e165]); ((repeat' (first | (with_reducible rfl) | split)) <;> (exfalso; omega)))]; exact Z9181) | (exfalso; have := R173.1 15 _ _ rfl; have := R173.1 16 _ _ rfl; have := R173.1 19 _ _ rfl; have := E180.f yS; omega))⟩
          · refine mv_iconst (v := 1) d_TrustDeskModel_isSign_16 (by decide) ?_
            refine mv_goto (tgt := 21) d_TrustDeskModel_isSign_17 (by decide) ?_
            refine mv_iret d_TrustDeskModel_isSign_21 rfl (by decide) ?_
            refine mv_if_eq_f (tgt := 54) d_TrustDeskModel_compares_46 (by decide) (by decide) ?_
            refine mv_bipush (v := (-6)) d_TrustDeskModel_compares_49 (by decide) ?_
            refine mv_goto (tgt := 55) d_TrustDeskModel_compares_51 (by decide) ?_
            refine mv_istore_n (lv' := [(1, .int (-6)), (0, .ref o0)]) d_TrustDeskModel_compares_55 rfl (by decide) rfl ?_
            refine mv_iload_n d_TrustDeskModel_compares_56 rfl rfl ?_
            refine mv_if_ne_t (tgt := 65) d_TrustDeskModel_compares_57 (by decide) (by decide) ?_
            refine mv_aload_n d_TrustDeskModel_compares_65 rfl rfl ?_
            obtain ⟨_, b182, -⟩ := I6.1 _ _ t12
            refine mv_callV (kc1 := 0) (ks1 := 0) (kc' := 0) (ks' := 0) (As := []) (st9 := [.ref o0]) d_TrustDeskModel_compares_66 lV_TrustDeskModel_230 b182 rfl (mj_enter (by decide) (Nat.le_of_ble_eq_true rfl) ?_) rfl (Nat.le_of_ble_eq_true rfl) (Nat.le_of_ble_eq_true rfl) (Nat.le_of_ble_eq_true rfl) (hst := rfl) (fun _ _ _ h => h)
            refine mv_aload_n d_TrustDeskModel_isWell_0 rfl rfl ?_
            refine tr_getK (k := 19) q17 d_TrustDeskModel_isWell_1 f_TrustDeskModel_224_13 ?_
            have := mz_hi v18
            refine mv_if_neZ (tgt := 11) (a := v18.toInt) d_TrustDeskModel_isWell_4 (by decide) rfl (fun b183 => absurd b183 (by omega)) (fun b183 => ?_)
            refine mv_iconst (v := 1) d_TrustDeskModel_isWell_7 (by decide) ?_
            refine mv_goto (tgt := 12) d_TrustDeskModel_isWell_8 (by decide) ?_
            refine mv_iret d_TrustDeskModel_isWell_12 rfl (by decide) ?_
            refine mv_if_ne_t (tgt := 73) d_TrustDeskModel_compares_69 (by decide) (by decide) ?_
            refine mv_aload_n d_TrustDeskModel_compares_73 rfl rfl ?_
            obtain ⟨_, b190, -⟩ := I6.1 _ _ t12
            refine mv_callV (kc' := 0) (ks' := 0) (As := []) (st9 := [.ref o0]) d_TrustDeskModel_compares_74 lV_TrustDeskModel_237 b190 rfl (tc_TrustDeskModel_next_x (d := (d + E + 10)) (x9 := x9) (o0 := o0) t12 R8 f11.p I6.start) rfl (Nat.le_of_ble_eq_true rfl) (Nat.le_of_ble_eq_true rfl) (Nat.le_of_ble_eq_true rfl) (hst := rfl) (fun b184r M185 n186 b184 => ?_)
            obtain ⟨T187, J188, rfl, R191, f192, f193, f194⟩ := b184
            have I189 := I6.call J188 (tm_sub (by decide)) (Or.inl rfl)
            have t195 := J188.up t12
            have z196 := (rv_c I6 J188 (I6.up h_o0) (k := 19) rfl)
            have z197 := (rv_c I6 J188 (I6.up h_o0) (k := 22) rfl)
            have h199 : rv M2 o0 16 + 1 ≤ rv M2 o0 15 := (by have := R8.1 15 _ _ rfl; have := R8.1 16 _ _ rfl; have := R8.1 19 _ _ rfl; have := E13.f yS; omega)
            have E198 : rE M0 M185 o0 1 1 := E13.next f192 f193 (rv_c I6 J188 (I6.up h_o0) (k := 19) rfl) (rE_ha I6 J188 (I6.up h_o0) (by decide)) (e := 1) h199 (by decide)
            obtain ⟨s200, e201⟩ : ∃ s9 : p_S, p_nx s14 = s9 := ⟨_, rfl⟩
            rw [e201] at f194
            have := f194.w
            have q202 := J188.keep t12 (by decide) q17
            refine mv_aload_n d_TrustDeskModel_compares_77 rfl rfl ?_
            obtain ⟨_, b209, -⟩ := I189.1 _ _ t195
            refine mv_callV (kc' := 0) (ks' := 0) (As := []) (st9 := [.ref o0]) d_TrustDeskModel_compares_78 lV_TrustDeskModel_288 b209 rfl (tg_TrustDeskModel_sum hK9 H_sum H_cond (d := d) (x9 := x9) (o0 := o0) t195 R191 E198.1 (by have := R191.1 15 _ _ rfl; have := R191.1 16 _ _ rfl; have := R191.1 19 _ _ rfl; have := E198.f yS; omega) (by have := R191.1 15 _ _ rfl; have := R191.1 16 _ _ rfl; have := R191.1 19 _ _ rfl; have := E198.f yS; omega) f194 I189.start) rfl (Nat.le_of_ble_eq_true rfl) (Nat.le_of_ble_eq_true rfl) (Nat.le_of_ble_eq_true rfl) (hst := rfl) (fun b203r M204 n205 b203 => ?_)
            obtain ⟨T206, J207, rfl, R210, f211, f212, f213⟩ := b203
            have I208 := I189.call J207 (tm_sub (by decide)) (Or.inl rfl)
            have t214 := J207.up t195
            have E215 : rE M0 M204 o0 2 1 := E198.trans f211 (by decide) (yR.2 5 _ _ rfl 44).1 (by decide) (by decide)
            have := f211.w
            obtain ⟨s216, e217⟩ : ∃ s9 : p_S, p_sum pb pn pa (p_op pb pn pa (r7 + 1)) s200 = s9 := ⟨_, rfl⟩
            rw [e217] at f213
            have := f213.w
            refine mv_aload_n d_TrustDeskModel_compares_81 rfl rfl ?_
            refine mv_iload_n d_TrustDeskModel_compares_82 rfl rfl ?_
            obtain ⟨_, b224, -⟩ := I208.1 _ _ t214
            have : ((-6) : Int32).toInt = (-6) := by decide
            refine mv_callV (kc' := 0) (ks' := 0) (As := [.int (-6)]) (st9 := [.int (-6), .ref o0]) d_TrustDeskModel_compares_83 lV_TrustDeskModel_279 b224 rfl (tc_TrustDeskModel_emits_x (d := (d + E + 10)) (x9 := x9) (o0 := o0) (x1 := (-6)) t214 R210 (by have := R210.1 15 _ _ rfl; have := R210.1 16 _ _ rfl; have := R210.1 19 _ _ rfl; have := E215.f yS; omega) (by decide) I208.start) rfl (Nat.le_of_ble_eq_true rfl) (Nat.le_of_ble_eq_true rfl) (Nat.le_of_ble_eq_true rfl) (hst := rfl) (fun b218r M219 n220 b218 => ?_)
            obtain ⟨T221, J222, rfl, R225, f226⟩ := b218
            have I223 := I208.call J222 (tm_sub (by decide)) (Or.inl rfl)
            have t227 := J222.up t214
            have z228 := (rv_c I208 J222 (I208.up h_o0) (k := 16) rfl)
            have z229 := (rv_c I208 J222 (I208.up h_o0) (k := 17) rfl)
            have z230 := (rv_c I208 J222 (I208.up h_o0) (k := 19) rfl)
            have z231 := (rv_c I208 J222 (I208.up h_o0) (k := 22) rfl)
            have E232 : rE M0 M219 o0 1 0 := E215.emit f226 (rE_hv I208 J222 (I208.up h_o0) 15 19 (by decide)) (yR.2 5 _ _ rfl 44).1 (by decide) (Or.inr (Or.inr ⟨by decide, by decide, by decide, by decide⟩)) (by decide)
            have Z9233 : pO M219 o0 pb pn pa s216 := f213.same (rE_hv I208 J222 (I208.up h_o0) 14 20 (by decide)) (rv_c I208 J222 (I208.up h_o0) (k := 23) rfl) (ra_call I208 J222 (I208.up h_o0) (k := 13) rfl rfl rfl)
            exact mv_vret d_TrustDeskModel_compares_86 rfl ⟨_, I223, rfl, R225, E232, (by have := R225.1 15 _ _ rfl; have := R225.1 16 _ _ rfl; have := R225.1 19 _ _ rfl; have := E232.f yS; omega), (by first | (have := f11.s4 (by omega) (by omega); rw [show p_cmp pb pn pa (r7 + 1) ps = s216 from (by unfold p_cmp; (try simp only [e15, e201, e217]); ((repeat' (first | (with_reducible rfl) | split)) <;> (exfalso; omega)))]; exact Z9233) | (exfalso; have := R225.1 15 _ _ rfl; have := R225.1 16 _ _ rfl; have := R225.1 19 _ _ rfl; have := E232.f yS; omega))⟩
        · refine mv_iconst (v := 1) d_TrustDeskModel_isSign_16 (by decide) ?_
          refine mv_goto (tgt := 21) d_TrustDeskModel_isSign_17 (by decide) ?_
          refine mv_iret d_TrustDeskModel_isSign_21 rfl (by decide) ?_
          refine mv_if_eq_f (tgt := 40) d_TrustDeskModel_compares_32 (by decide) (by decide) ?_
          refine mv_bipush (v := (-5)) d_TrustDeskModel_compares_35 (by decide) ?_
          refine mv_goto (tgt := 55) d_TrustDeskModel_compares_37 (by decide) ?_
          refine mv_istore_n (lv' := [(1, .int (-5)), (0, .ref o0)]) d_TrustDeskModel_compares_55 rfl (by decide) rfl ?_
          refine mv_iload_n d_TrustDeskModel_compares_56 rfl rfl ?_
          refine mv_if_ne_t (tgt := 65) d_TrustDeskModel_compares_57 (by decide) (by decide) ?_
          refine mv_aload_n d_TrustDeskModel_compares_65 rfl rfl ?_
          obtain ⟨_, b234, -⟩ := I6.1 _ _ t12
          refine mv_callV (kc1 := 0) (ks1 := 0) (kc' := 0) (ks' := 0) (As := []) (st9 := [.ref o0]) d_TrustDeskModel_compares_66 lV_TrustDeskModel_230 b234 rfl (mj_enter (by decide) (Nat.le_of_ble_eq_true rfl) ?_) rfl (Nat.le_of_ble_eq_true rfl) (Nat.le_of_ble_eq_true rfl) (Nat.le_of_ble_eq_true rfl) (hst := rfl) (fun _ _ _ h => h)
          refine mv_aload_n d_TrustDeskModel_isWell_0 rfl rfl ?_
          refine tr_getK (k := 19) q17 d_TrustDeskModel_isWell_1 f_TrustDeskModel_224_13 ?_
          have := mz_hi v18
          refine mv_if_neZ (tgt := 11) (a := v18.toInt) d_TrustDeskModel_isWell_4 (by decide) rfl (fun b235 => absurd b235 (by omega)) (fun b235 => ?_)
          refine mv_iconst (v := 1) d_TrustDeskModel_isWell_7 (by decide) ?_
          refine mv_goto (tgt := 12) d_TrustDeskModel_isWell_8 (by decide) ?_
          refine mv_iret d_TrustDeskModel_isWell_12 rfl (by decide) ?_
          refine mv_if_ne_t (tgt := 73) d_TrustDeskModel_compares_69 (by decide) (by decide) ?_
          refine mv_aload_n d_TrustDeskModel_compares_73 rfl rfl ?_
          obtain ⟨_, b242, -⟩ := I6.1 _ _ t12
          refine mv_callV (kc' := 0) (ks' := 0) (As := []) (st9 := [.ref o0]) d_TrustDeskModel_compares_74 lV_TrustDeskModel_237 b242 rfl (tc_TrustDeskModel_next_x (d := (d + E + 10)) (x9 := x9) (o0 := o0) t12 R8 f11.p I6.start) rfl (Nat.le_of_ble_eq_true rfl) (Nat.le_of_ble_eq_true rfl) (Nat.le_of_ble_eq_true rfl) (hst := rfl) (fun b236r M237 n238 b236 => ?_)
          obtain ⟨T239, J240, rfl, R243, f244, f245, f246⟩ := b236
          have I241 := I6.call J240 (tm_sub (by decide)) (Or.inl rfl)
          have t247 := J240.up t12
          have z248 := (rv_c I6 J240 (I6.up h_o0) (k := 19) rfl)
          have z249 := (rv_c I6 J240 (I6.up h_o0) (k := 22) rfl)
          have h251 : rv M2 o0 16 + 1 ≤ rv M2 o0 15 := (by have := R8.1 15 _ _ rfl; have := R8.1 16 _ _ rfl; have := R8.1 19 _ _ rfl; have := E13.f yS; omega)
          have E250 : rE M0 M237 o0 1 1 := E13.next f244 f245 (rv_c I6 J240 (I6.up h_o0) (k := 19) rfl) (rE_ha I6 J240 (I6.up h_o0) (by decide)) (e := 1) h251 (by decide)
          obtain ⟨s252, e253⟩ : ∃ s9 : p_S, p_nx s14 = s9 := ⟨_, rfl⟩
          rw [e253] at f246
          have := f246.w
          have q254 := J240.keep t12 (by decide) q17
          refine mv_aload_n d_TrustDeskModel_compares_77 rfl rfl ?_
          obtain ⟨_, b261, -⟩ := I241.1 _ _ t247
          refine mv_callV (kc' := 0) (ks' := 0) (As := []) (st9 := [.ref o0]) d_TrustDeskModel_compares_78 lV_TrustDeskModel_288 b261 rfl (tg_TrustDeskModel_sum hK9 H_sum H_cond (d := d) (x9 := x9) (o0 := o0) t247 R243 E250.1 (by have := R243.1 15 _ _ rfl; have := R243.1 16 _ _ rfl; have := R243.1 19 _ _ rfl; have := E250.f yS; omega) (by have := R243.1 15 _ _ rfl; have := R243.1 16 _ _ rfl; have := R243.1 19 _ _ rfl; have := E250.f yS; omega) f246 I241.start) rfl (Nat.le_of_ble_eq_true rfl) (Nat.le_of_ble_eq_true rfl) (Nat.le_of_ble_eq_true rfl) (hst := rfl) (fun b255r M256 n257 b255 => ?_)
          obtain ⟨T258, J259, rfl, R262, f263, f264, f265⟩ := b255
          have I260 := I241.call J259 (tm_sub (by decide)) (Or.inl rfl)
          have t266 := J259.up t247
          have E267 : rE M0 M256 o0 2 1 := E250.trans f263 (by decide) (yR.2 5 _ _ rfl 44).1 (by decide) (by decide)
          have := f263.w
          obtain ⟨s268, e269⟩ : ∃ s9 : p_S, p_sum pb pn pa (p_op pb pn pa (r7 + 1)) s252 = s9 := ⟨_, rfl⟩
          rw [e269] at f265
          have := f265.w
          refine mv_aload_n d_TrustDeskModel_compares_81 rfl rfl ?_
          refine mv_iload_n d_TrustDeskModel_compares_82 rfl rfl ?_
          obtain ⟨_, b276, -⟩ := I260.1 _ _ t266
          have : ((-5) : Int32).toInt = (-5) := by decide
          refine mv_callV (kc' := 0) (ks' := 0) (As := [.int (-5)]) (st9 := [.int (-5), .ref o0]) d_TrustDeskModel_compares_83 lV_TrustDeskModel_279 b276 rfl (tc_TrustDeskModel_emits_x (d := (d + E + 10)) (x9 := x9) (o0 := o0) (x1 := (-5)) t266 R262 (by have := R262.1 15 _ _ rfl; have := R262.1 16 _ _ rfl; have := R262.1 19 _ _ rfl; have := E267.f yS; omega) (by decide) I260.start) rfl (Nat.le_of_ble_eq_true rfl) (Nat.le_of_ble_eq_true rfl) (Nat.le_of_ble_eq_true rfl) (hst := rfl) (fun b270r M271 n272 b270 => ?_)
          obtain ⟨T273, J274, rfl, R277, f278⟩ := b270
          have I275 := I260.call J274 (tm_sub (by decide)) (Or.inl rfl)
          have t279 := J274.up t266
          have z280 := (rv_c I260 J274 (I260.up h_o0) (k := 16) rfl)
          have z281 := (rv_c I260 J274 (I260.up h_o0) (k := 17) rfl)
          have z282 := (rv_c I260 J274 (I260.up h_o0) (k := 19) rfl)
          have z283 := (rv_c I260 J274 (I260.up h_o0) (k := 22) rfl)
          have E284 : rE M0 M271 o0 1 0 := E267.emit f278 (rE_hv I260 J274 (I260.up h_o0) 15 19 (by decide)) (yR.2 5 _ _ rfl 44).1 (by decide) (Or.inr (Or.inr ⟨by decide, by decide, by decide, by decide⟩)) (by decide)
          have Z9285 : pO M271 o0 pb pn pa s268 := f265.same (rE_hv I260 J274 (I260.up h_o0) 14 20 (by decide)) (rv_c I260 J274 (I260.up h_o0) (k := 23) rfl) (ra_call I260 J274 (I260.up h_o0) (k := 13) rfl rfl rfl)
          exact mv_vret d_TrustDeskModel_compares_86 rfl ⟨_, I275, rfl, R277, E284, (by have := R277.1 15 _ _ rfl; have := R277.1 16 _ _ rfl; have := R277.1 19 _ _ rfl; have := E284.f yS; omega), (by first | (have := f11.s4 (by omega) (by omega); rw [show p_cmp pb pn pa (r7 + 1) ps = s268 from (by unfold p_cmp; (try simp only [e15, e253, e269]); ((repeat' (first | (with_reducible rfl) | split)) <;> (exfalso; omega)))]; exact Z9285) | (exfalso; have := R277.1 15 _ _ rfl; have := R277.1 16 _ _ rfl; have := R277.1 19 _ _ rfl; have := E284.f yS; omega))⟩
      · refine mv_iconst (v := 1) d_TrustDeskModel_isSign_16 (by decide) ?_
        refine mv_goto (tgt := 21) d_TrustDeskModel_isSign_17 (by decide) ?_
        refine mv_iret d_TrustDeskModel_isSign_21 rfl (by decide) ?_
        refine mv_if_eq_f (tgt := 26) d_TrustDeskModel_compares_18 (by decide) (by decide) ?_
        refine mv_bipush (v := (-4)) d_TrustDeskModel_compares_21 (by decide) ?_
        refine mv_goto (tgt := 55) d_TrustDeskModel_compares_23 (by decide) ?_
        refine mv_istore_n (lv' := [(1, .int (-4)), (0, .ref o0)]) d_TrustDeskModel_compares_55 rfl (by decide) rfl ?_
        refine mv_iload_n d_TrustDeskModel_compares_56 rfl rfl ?_
        refine mv_if_ne_t (tgt := 65) d_TrustDeskModel_compares_57 (by decide) (by decide) ?_
        refine mv_aload_n d_TrustDeskModel_compares_65 rfl rfl ?_
        obtain ⟨_, b286, -⟩ := I6.1 _ _ t12
        refine mv_callV (kc1 := 0) (ks1 := 0) (kc' := 0) (ks' := 0) (As := []) (st9 := [.ref o0]) d_TrustDeskModel_compares_66 lV_TrustDeskModel_230 b286 rfl (mj_enter (by decide) (Nat.le_of_ble_eq_true rfl) ?_) rfl (Nat.le_of_ble_eq_true rfl) (Nat.le_of_ble_eq_true rfl) (Nat.le_of_ble_eq_true rfl) (hst := rfl) (fun _ _ _ h => h)
        refine mv_aload_n d_TrustDeskModel_isWell_0 rfl rfl ?_
        refine tr_getK (k := 19) q17 d_TrustDeskModel_isWell_1 f_TrustDeskModel_224_13 ?_
        have := mz_hi v18
        refine mv_if_neZ (tgt := 11) (a := v18.toInt) d_TrustDeskModel_isWell_4 (by decide) rfl (fun b287 => absurd b287 (by omega)) (fun b287 => ?_)
        refine mv_iconst (v := 1) d_TrustDeskModel_isWell_7 (by decide) ?_
        refine mv_goto (tgt := 12) d_TrustDeskModel_isWell_8 (by decide) ?_
        refine mv_iret d_TrustDeskModel_isWell_12 rfl (by decide) ?_
        refine mv_if_ne_t (tgt := 73) d_TrustDeskModel_compares_69 (by decide) (by decide) ?_
        refine mv_aload_n d_TrustDeskModel_compares_73 rfl rfl ?_
        obtain ⟨_, b294, -⟩ := I6.1 _ _ t12
        refine mv_callV (kc' := 0) (ks' := 0) (As := []) (st9 := [.ref o0]) d_TrustDeskModel_compares_74 lV_TrustDeskModel_237 b294 rfl (tc_TrustDeskModel_next_x (d := (d + E + 10)) (x9 := x9) (o0 := o0) t12 R8 f11.p I6.start) rfl (Nat.le_of_ble_eq_true rfl) (Nat.le_of_ble_eq_true rfl) (Nat.le_of_ble_eq_true rfl) (hst := rfl) (fun b288r M289 n290 b288 => ?_)
        obtain ⟨T291, J292, rfl, R295, f296, f297, f298⟩ := b288
        have I293 := I6.call J292 (tm_sub (by decide)) (Or.inl rfl)
        have t299 := J292.up t12
        have z300 := (rv_c I6 J292 (I6.up h_o0) (k := 19) rfl)
        have z301 := (rv_c I6 J292 (I6.up h_o0) (k := 22) rfl)
        have h303 : rv M2 o0 16 + 1 ≤ rv M2 o0 15 := (by have := R8.1 15 _ _ rfl; have := R8.1 16 _ _ rfl; have := R8.1 19 _ _ rfl; have := E13.f yS; omega)
        have E302 : rE M0 M289 o0 1 1 := E13.next f296 f297 (rv_c I6 J292 (I6.up h_o0) (k := 19) rfl) (rE_ha I6 J292 (I6.up h_o0) (by decide)) (e := 1) h303 (by decide)
        obtain ⟨s304, e305⟩ : ∃ s9 : p_S, p_nx s14 = s9 := ⟨_, rfl⟩
        rw [e305] at f298
        have := f298.w
        have q306 := J292.keep t12 (by decide) q17
        refine mv_aload_n d_TrustDeskModel_compares_77 rfl rfl ?_
        obtain ⟨_, b313, -⟩ := I293.1 _ _ t299
        refine mv_callV (kc' := 0) (ks' := 0) (As := []) (st9 := [.ref o0]) d_TrustDeskModel_compares_78 lV_TrustDeskModel_288 b313 rfl (tg_TrustDeskModel_sum hK9 H_sum H_cond (d := d) (x9 := x9) (o0 := o0) t299 R295 E302.1 (by have := R295.1 15 _ _ rfl; have := R295.1 16 _ _ rfl; have := R295.1 19 _ _ rfl; have := E302.f yS; omega) (by have := R295.1 15 _ _ rfl; have := R295.1 16 _ _ rfl; have := R295.1 19 _ _ rfl; have := E302.f yS; omega) f298 I293.start) rfl (Nat.le_of_ble_eq_true rfl) (Nat.le_of_ble_eq_true rfl) (Nat.le_of_ble_eq_true rfl) (hst := rfl) (fun b307r M308 n309 b307 => ?_)
        obtain ⟨T310, J311, rfl, R314, f315, f316, f317⟩ := b307
        have I312 := I293.call J311 (tm_sub (by decide)) (Or.inl rfl)
        have t318 := J311.up t299
        have E319 : rE M0 M308 o0 2 1 := E302.trans f315 (by decide) (yR.2 5 _ _ rfl 44).1 (by decide) (by decide)
        have := f315.w
        obtain ⟨s320, e321⟩ : ∃ s9 : p_S, p_sum pb pn pa (p_op pb pn pa (r7 + 1)) s304 = s9 := ⟨_, rfl⟩
        rw [e321] at f317
        have := f317.w
        refine mv_aload_n d_TrustDeskModel_compares_81 rfl rfl ?_
        refine mv_iload_n d_TrustDeskModel_compares_82 rfl rfl ?_
        obtain ⟨_, b328, -⟩ := I312.1 _ _ t318
        have : ((-4) : Int32).toInt = (-4) := by decide
        refine mv_callV (kc' := 0) (ks' := 0) (As := [.int (-4)]) (st9 := [.int (-4), .ref o0]) d_TrustDeskModel_compares_83 lV_TrustDeskModel_279 b328 rfl (tc_TrustDeskModel_emits_x (d := (d + E + 10)) (x9 := x9) (o0 := o0) (x1 := (-4)) t318 R314 (by have := R314.1 15 _ _ rfl; have := R314.1 16 _ _ rfl; have := R314.1 19 _ _ rfl; have := E319.f yS; omega) (by decide) I312.start) rfl (Nat.le_of_ble_eq_true rfl) (Nat.le_of_ble_eq_true rfl) (Nat.le_of_ble_eq_true rfl) (hst := rfl) (fun b322r M323 n324 b322 => ?_)
        obtain ⟨T325, J326, rfl, R329, f330⟩ := b322
        have I327 := I312.call J326 (tm_sub (by decide)) (Or.inl rfl)
        have t331 := J326.up t318
        have z332 := (rv_c I312 J326 (I312.up h_o0) (k := 16) rfl)
        have z333 := (rv_c I312 J326 (I312.up h_o0) (k := 17) rfl)
        have z334 := (rv_c I312 J326 (I312.up h_o0) (k := 19) rfl)
        have z335 := (rv_c I312 J326 (I312.up h_o0) (k := 22) rfl)
        have E336 : rE M0 M323 o0 1 0 := E319.emit f330 (rE_hv I312 J326 (I312.up h_o0) 15 19 (by decide)) (yR.2 5 _ _ rfl 44).1 (by decide) (Or.inr (Or.inr ⟨by decide, by decide, by decide, by decide⟩)) (by decide)
        have Z9337 : pO M323 o0 pb pn pa s320 := f317.same (rE_hv I312 J326 (I312.up h_o0) 14 20 (by decide)) (rv_c I312 J326 (I312.up h_o0) (k := 23) rfl) (ra_call I312 J326 (I312.up h_o0) (k := 13) rfl rfl rfl)
        exact mv_vret d_TrustDeskModel_compares_86 rfl ⟨_, I327, rfl, R329, E336, (by have := R329.1 15 _ _ rfl; have := R329.1 16 _ _ rfl; have := R329.1 19 _ _ rfl; have := E336.f yS; omega), (by first | (have := f11.s4 (by omega) (by omega); rw [show p_cmp pb pn pa (r7 + 1) ps = s320 from (by unfold p_cmp; (try simp only [e15, e305, e321]); ((repeat' (first | (with_reducible rfl) | split)) <;> (exfalso; omega)))]; exact Z9337) | (exfalso; have := R329.1 15 _ _ rfl; have := R329.1 16 _ _ rfl; have := R329.1 19 _ _ rfl; have := E336.f yS; omega))⟩
set_option maxHeartbeats 100000000 in theorem tg_TrustDeskModel_part_0 {E r7 : Nat} {K K1 : Int} (hK9 : K1 = K + 1 ∧ 0 ≤ K ∧ K ≤ 3) (H_sum : ∀ {g : mj_G} {l : Launch} {d : Nat} {T0 : tm_H} {M0 : mj_M} {n0 x9 : Nat} {o0 : Nat} (h_o0 : T0 o0 = some (0, 13, 0)) (yR : rI M0 o0) (yT : rT M0 o0) (yS : rv M0 o0 19 = 0 → ra M0 o0 5 44 ≤ rv M0 o0 16) (yL : rv M0 o0 19 ≠ 0 ∨ (K1 ≤ rv M0 o0 22 ∧ rv M0 o0 22 ≤ K1)) {pb : Nat → Int} {pn : Nat} {pa : Int} {ps : p_S} (yO : pO M0 o0 pb pn pa ps) (I0 : tm_I tm_FT (tm_in w_TrustDeskModel_sum_q1_x) x9 T0 M0 n0 T0 M0 n0), mj_Met g l kY_TrustDeskModel_sum (d + E + 8) [.ref o0] M0 n0 0 0 (tm_Q tm_FT (tm_in w_TrustDeskModel_sum_q1_x) x9 T0 M0 n0 (fun r _ M => r = none ∧ rI M o0 ∧ (rE M0 M o0 1 0) ∧ (rv M o0 19 = 0 → rv M o0 22 = rv M0 o0 22) ∧ (pO M o0 pb pn pa (p_sum pb pn pa (p_op pb pn pa r7) ps))))) (H_cond : ∀ {g : mj_G} {l : Launch} {d : Nat} {T0 : tm_H} {M0 : mj_M} {n0 x9 : Nat} {o0 : Nat} (h_o0 : T0 o0 = some (0, 13, 0)) (yR : rI M0 o0) (yT : rT M0 o0) (yS : rv M0 o0 19 = 0 → ra M0 o0 5 44 ≤ rv M0 o0 16) (yL : rv M0 o0 19 ≠ 0 ∨ (K1 ≤ rv M0 o0 22 ∧ rv M0 o0 22 ≤ K1)) {pb : Nat → Int} {pn : Nat} {pa : Int} {ps : p_S} (yO : pO M0 o0 pb pn pa ps) (I0 : tm_I tm_FT (tm_in w_TrustDeskModel_cond_q1_x) x9 T0 M0 n0 T0 M0 n0), mj_Met g l kY_TrustDeskModel_cond (d + E + 12) [.ref o0] M0 n0 0 0 (tm_Q tm_FT (tm_in w_TrustDeskModel_cond_q1_x) x9 T0 M0 n0 (fun r _ M => r = none ∧ rI M o0 ∧ (rE M0 M o0 1 0) ∧ (rv M o0 19 = 0 → rv M o0 22 = rv M0 o0 22) ∧ (pO M o0 pb pn pa (p_con pb pn pa r7 (p_oc pb pn pa r7) ps))))) {g : mj_G} {l : Launch} {d : Nat} {T0 : tm_H} {M0 : mj_M} {n0 x9 : Nat} {o0 : Nat} (h_o0 : T0 o0 = some (0, 13, 0)) (yR : rI M0 o0) (yT : rT M0 o0) (yS : rv M0 o0 19 = 0 → ra M0 o0 5 44 ≤ rv M0 o0 16) (yL : rv M0 o0 19 ≠ 0 ∨ (K ≤ rv M0 o0 22 ∧ rv M0 o0 22 ≤ K)) {pb : Nat → Int} {pn : Nat} {pa : Int} {ps : p_S} (yO : pO M0 o0 pb pn pa ps) (I0 : tm_I tm_FT (tm_in w_TrustDeskModel_part_0_q1_x) x9 T0 M0 n0 T0 M0 n0) : mj_Met g l kY_TrustDeskModel_part_0 (d + E + 13) [.ref o0] M0 n0 0 0 (tm_Q tm_FT (tm_in w_TrustDeskModel_part_0_q1_x) x9 T0 M0 n0 (fun r _ M => r = none ∧ rI M o0 ∧ (rE M0 M o0 1 0) ∧ (rv M o0 19 = 0 → rv M o0 22 = rv M0 o0 22) ∧ (pO M o0 pb pn pa (p_ter pb pn pa (r7 + 1) (p_oc pb pn pa (r7 + 1)) ps)))) := by
  refine mj_enter (by decide) (Nat.le_of_ble_eq_true rfl) ?_
  have yE0 := rE.rf yT
  have := yO.w
  refine mv_iconst (v := 0) d_TrustDeskModel_part_0_0 (by decide) ?_
  refine mv_istore_n (lv' := [(1, .int 0), (0, .ref o0)]) d_TrustDeskModel_part_0_1 rfl (by decide) rfl ?_
  have L2_1 : ∀ (k : Nat) (i1_1 : Int32) (T_1 : tm_H) (M_1 : mj_M) (n_1 : Nat), tm_I tm_FT (tm_in w_TrustDeskModel_part_0_q1_x) x9 T0 M0 n0 T_1 M_1 n_1 → T_1 o0 = some (0, 13, 0) → (rv M_1 o0 19 = 0 → rv M_1 o0 22 = rv M0 o0 22) → 0 ≤ i1_1.toInt → i1_1.toInt ≤ 1 → (rI M_1 o0) → (rE M0 M_1 o0 0 i1_1.toInt) → (∃ s1 : p_S, pO M_1 o0 pb pn pa s1 ∧ p_lp pn (p_no1 pb pn) s1 = p_lp pn (p_no1 pb pn) ps) → 5 * (401 - rv M_1 o0 16) - rv M_1 o0 19 < (k : Int) → mj_V g l kY_TrustDeskModel_part_0 (d + E + 13) 2 [(1, .int i1_1), (0, .ref o0)] [] M_1 n_1 0 0 (tm_Q tm_FT (tm_in w_TrustDeskModel_part_0_q1_x) x9 T0 M0 n0 (fun r _ M => r = none ∧ rI M o0 ∧ (rE M0 M o0 1 0) ∧ (rv M o0 19 = 0 → rv M o0 22 = rv M0 o0 22) ∧ (pO M o0 pb pn pa (p_ter pb pn pa (r7 + 1) (p_oc pb pn pa (r7 + 1)) ps)))) := by
    intro k1
    induction k1 with
    | zero =>
      intro i1_1 T_1 M_1 n_1 I_1 h_q0_1 iv0_1 iv1_1 iv2_1 kKR_1 kKE_1 kKT9_1 hk1
      have := kKR_1.1 15 _ _ rfl
      have := kKR_1.1 16 _ _ rfl
      have := kKR_1.1 19 _ _ rfl
      exfalso; omega
    | succ k1 ih1 =>
      intro i1_1 T_1 M_1 n_1 I_1 h_q0_1 iv0_1 iv1_1 iv2_1 kKR_1 kKE_1 kKT9_1 hk1
      have := kKE_1.f yS
      obtain ⟨s2, Z93, e4⟩ := kKT9_1
      have := Z93.w
      refine mv_aload_n d_TrustDeskModel_part_0_2 rfl rfl ?_
      obtain ⟨_, b5, -⟩ := I_1.1 _ _ h_q0_1
      refine mv_callV (kc1 := 0) (ks1 := 0) (kc' := 0) (ks' := 0) (As := []) (st9 := [.ref o0]) d_TrustDeskModel_part_0_3 lV_TrustDeskModel_230 b5 rfl (mj_enter (by decide) (Nat.le_of_ble_eq_true rfl) ?_) rfl (Nat.le_of_ble_eq_true rfl) (Nat.le_of_ble_eq_true rfl) (Nat.le_of_ble_eq_true rfl) (hst := rfl) (fun _ _ _ h => h)
      refine mv_aload_n d_TrustDeskModel_isWell_0 rfl rfl ?_
      obtain ⟨v7, q6⟩ := tm_atI I_1 h_q0_1 (k := 19) rfl
      refine tr_getK q6 d_TrustDeskModel_isWell_1 f_TrustDeskModel_224_13 ?_
      have := kKR_1.f (k := 19) q6 rfl
      have := tm_rv q6
      have := mz_hi v7
      refine mv_if_neZ (tgt := 11) (a := v7.toInt) d_TrustDeskModel_isWell_4 (by decide) rfl (fun b8 => ?_) (fun b8 => ?_)
      · refine mv_iconst (v := 0) d_TrustDeskModel_isWell_11 (by decide) ?_
        refine mv_iret d_TrustDeskModel_isWell_12 rfl (by decide) ?_
        refine mv_if_eq_t (tgt := 36) d_TrustDeskModel_part_0_6 (by decide) (by decide) ?_
        refine mv_aload_n d_TrustDeskModel_part_0_36 rfl rfl ?_
        obtain ⟨_, b9, -⟩ := I_1.1 _ _ h_q0_1
        refine mv_callV (kc1 := 0) (ks1 := 0) (kc' := 0) (ks' := 0) (As := []) (st9 := [.ref o0]) d_TrustDeskModel_part_0_37 lV_TrustDeskModel_230 b9 rfl (mj_enter (by decide) (Nat.le_of_ble_eq_true rfl) ?_) rfl (Nat.le_of_ble_eq_true rfl) (Nat.le_of_ble_eq_true rfl) (Nat.le_of_ble_eq_true rfl) (hst := rfl) (fun _ _ _ h => h)
        refine mv_aload_n d_TrustDeskModel_isWell_0 rfl rfl ?_
        refine tr_getK (k := 19) q6 d_TrustDeskModel_isWell_1 f_TrustDeskModel_224_13 ?_
        have := mz_hi v7
        refine mv_if_neZ (tgt := 11) (a := v7.toInt) d_TrustDeskModel_isWell_4 (by decide) rfl (fun b10 => ?_) (fun b10 => absurd b10 (by omega))
        refine mv_iconst (v := 0) d_TrustDeskModel_isWell_11 (by decide) ?_
        refine mv_iret d_TrustDeskModel_isWell_12 rfl (by decide) ?_
        refine mv_if_ne_f (tgt := 44) d_TrustDeskModel_part_0_40 (by decide) (by decide) ?_
        exact mv_vret d_TrustDeskModel_part_0_43 rfl ⟨_, I_1, rfl, kKR_1, kKE_1.vac (by have := kKR_1.1 15 _ _ rfl; have := kKR_1.1 16 _ _ rfl; have := kKR_1.1 19 _ _ rfl; have := kKE_1.f yS; omega) 1 0, (by have := kKR_1.1 15 _ _ rfl; have := kKR_1.1 16 _ _ rfl; have := kKR_1.1 19 _ _ rfl; have := kKE_1.f yS; omega), (by first | (have hX := e4.symm.trans (p_lp_stop (show (p_no1 pb pn) s2 = s2 from if_neg (fun h9 => by omega))); rw [show p_ter pb pn pa (r7 + 1) (p_oc pb pn pa (r7 + 1)) ps = s2 from (by have hop : (p_oc pb pn pa (r7 + 1)) s2 = p_sg pb pn 93 (p_con pb pn pa r7 (p_oc pb pn pa r7) (p_nx s2)) := rfl; unfold p_ter; rw [hX]; unfold p_te1; (try simp only [hop]); (try simp only [hX]); ((repeat' (first | (with_reducible rfl) | split)) <;> (exfalso; omega)))]; exact Z93) | (exfalso; have := kKR_1.1 15 _ _ rfl; have := kKR_1.1 16 _ _ rfl; have := kKR_1.1 19 _ _ rfl; have := kKE_1.f yS; omega))⟩
      · refine mv_iconst (v := 1) d_TrustDeskModel_isWell_7 (by decide) ?_
        refine mv_goto (tgt := 12) d_TrustDeskModel_isWell_8 (by decide) ?_
        refine mv_iret d_TrustDeskModel_isWell_12 rfl (by decide) ?_
        refine mv_if_eq_f (tgt := 36) d_TrustDeskModel_part_0_6 (by decide) (by decide) ?_
        refine mv_aload_n d_TrustDeskModel_part_0_9 rfl rfl ?_
        refine mv_ldcSw (id := 26) (tx := "not") d_TrustDeskModel_part_0_10 (List.mem_of_getElem? (i := 16) rfl) ?_
        obtain ⟨_, b17, -⟩ := I_1.1 _ _ h_q0_1
        refine mv_callV (kc' := 0) (ks' := 0) (As := [.ref 26]) (st9 := [.ref 26, .ref o0]) d_TrustDeskModel_part_0_13 lV_TrustDeskModel_244 b17 rfl (tc_TrustDeskModel_isWord_s1_26_x (d := (d + E + 8)) (x9 := x9) (o0 := o0) h_q0_1 kKR_1 I_1.start) rfl (Nat.le_of_ble_eq_true rfl) (Nat.le_of_ble_eq_true rfl) (Nat.le_of_ble_eq_true rfl) (hst := rfl) (fun b11r M12 n13 b11 => ?_)
        obtain ⟨T14, J15, v18, rfl, b19, b20, R21, f22, f23, f24⟩ := b11
        have I16 := I_1.call J15 (tm_sub (by decide)) (Or.inl rfl)
        have t25 := J15.up h_q0_1
        replace f23 := Im.i f23
        replace f24 := Im.i f24
        have z26 := (rv_c I_1 J15 (I_1.up h_o0) (k := 16) rfl)
        have z27 := (rv_c I_1 J15 (I_1.up h_o0) (k := 17) rfl)
        have z28 := (rv_c I_1 J15 (I_1.up h_o0) (k := 19) rfl)
        have z29 := (rv_c I_1 J15 (I_1.up h_o0) (k := 22) rfl)
        have E30 : rE M0 M12 o0 0 i1_1.toInt := kKE_1.same (rE_hv I_1 J15 (I_1.up h_o0) 15 19 (by decide)) (rE_ha I_1 J15 (I_1.up h_o0) (by decide))
        have Z931 : pO M12 o0 pb pn pa s2 := Z93.same (rE_hv I_1 J15 (I_1.up h_o0) 14 20 (by decide)) (rv_c I_1 J15 (I_1.up h_o0) (k := 23) rfl) (ra_call I_1 J15 (I_1.up h_o0) (k := 13) rfl rfl rfl)
        have d32 := Im.i (pO.w_30 Z93 (by have := kKR_1.1 15 _ _ rfl; have := kKR_1.1 16 _ _ rfl; have := kKR_1.1 19 _ _ rfl; have := kKE_1.f yS; omega) (Im.o f23) (Im.o f24) (by have := kKR_1.1 15 _ _ rfl; have := kKR_1.1 16 _ _ rfl; have := kKR_1.1 19 _ _ rfl; have := kKE_1.f yS; omega))
        have q33 := J15.keep h_q0_1 (by decide) q6
        have := mz_hi v18
        refine mv_if_eqZ (tgt := 36) (a := v18.toInt) d_TrustDeskModel_part_0_16 (by decide) rfl (fun b34 => ?_) (fun b34 => ?_)
        · refine mv_aload_n d_TrustDeskModel_part_0_36 rfl rfl ?_
          obtain ⟨_, b35, -⟩ := I16.1 _ _ t25
          refine mv_callV (kc1 := 0) (ks1 := 0) (kc' := 0) (ks' := 0) (As := []) (st9 := [.ref o0]) d_TrustDeskModel_part_0_37 lV_TrustDeskModel_230 b35 rfl (mj_enter (by decide) (Nat.le_of_ble_eq_true rfl) ?_) rfl (Nat.le_of_ble_eq_true rfl) (Nat.le_of_ble_eq_true rfl) (Nat.le_of_ble_eq_true rfl) (hst := rfl) (fun _ _ _ h => h)
          refine mv_aload_n d_TrustDeskModel_isWell_0 rfl rfl ?_
          refine tr_getK (k := 19) q33 d_TrustDeskModel_isWell_1 f_TrustDeskModel_224_13 ?_
          have := mz_hi v7
          refine mv_if_neZ (tgt := 11) (a := v7.toInt) d_TrustDeskModel_isWell_4 (by decide) rfl (fun b36 => absurd b36 (by omega)) (fun b36 => ?_)
          refine mv_iconst (v := 1) d_TrustDeskModel_isWell_7 (by decide) ?_
          refine mv_goto (tgt := 12) d_TrustDeskModel_isWell_8 (by decide) ?_
          refine mv_iret d_TrustDeskModel_isWell_12 rfl (by decide) ?_
          refine mv_if_ne_t (tgt := 44) d_TrustDeskModel_part_0_40 (by decide) (by decide) ?_
          refine mv_aload_n d_TrustDeskModel_part_0_44 rfl rfl ?_
          refine mv_bipush (v := 91) d_TrustDeskModel_part_0_45 (by decide) ?_
          obtain ⟨_, b37, -⟩ := I16.1 _ _ t25
          refine mv_callV (kc1 := 0) (ks1 := 0) (kc' := 0) (ks' := 0) (As := [.int 91]) (st9 := [.int 91, .ref o0]) d_TrustDeskModel_part_0_47 lV_TrustDeskModel_234 b37 rfl (mj_enter (by decide) (Nat.le_of_ble_eq_true rfl) ?_) rfl (Nat.le_of_ble_eq_true rfl) (Nat.le_of_ble_eq_true rfl) (Nat.le_of_ble_eq_true rfl) (hst := rfl) (fun _ _ _ h => h)
          refine mv_aload_n d_TrustDeskModel_isSign_0 rfl rfl ?_
          obtain ⟨v39, q38⟩ := tm_atI I16 t25 (k := 17) rfl
          refine tr_getK q38 d_TrustDeskModel_isSign_1 f_TrustDeskModel_198_13 ?_
          have := (tm_rv q38).symm.trans z27
          have := tm_rv q38
          refine mv_iconst (v := 4) d_TrustDeskModel_isSign_4 (by decide) ?_
          have := mz_hi v39
          refine mv_icmp_neZ (tgt := 20) (a := v39.toInt) (b := 4) d_TrustDeskModel_isSign_5 (by decide) rfl (by decide) (fun b40 => ?_) (fun b40 => ?_)
          · refine mv_iconst (v := 0) d_TrustDeskModel_isSign_20 (by decide) ?_
            refine mv_iret d_TrustDeskModel_isSign_21 rfl (by decide) ?_
            refine mv_if_eq_t (tgt := 80) d_TrustDeskModel_part_0_50 (by decide) (by decide) ?_
            refine mv_aload_n d_TrustDeskModel_part_0_80 rfl rfl ?_
            obtain ⟨_, b47, -⟩ := I16.1 _ _ t25
            refine mv_callV (kc' := 0) (ks' := 0) (As := []) (st9 := [.ref o0]) d_TrustDeskModel_part_0_81 lV_TrustDeskModel_305 b47 rfl (tg_TrustDeskModel_compares hK9 H_sum H_cond (d := d) (x9 := x9) (o0 := o0) t25 R21 E30.1 (by have := R21.1 15 _ _ rfl; have := R21.1 16 _ _ rfl; have := R21.1 19 _ _ rfl; have := E30.f yS; omega) (by have := R21.1 15 _ _ rfl; have := R21.1 16 _ _ rfl; have := R21.1 19 _ _ rfl; have := E30.f yS; omega) Z931 I16.start) rfl (Nat.le_of_ble_eq_true rfl) (Nat.le_of_ble_eq_true rfl) (Nat.le_of_ble_eq_true rfl) (hst := rfl) (fun b41r M42 n43 b41 => ?_)
            obtain ⟨T44, J45, rfl, R48, f49, f50, f51⟩ := b41
            have I46 := I16.call J45 (tm_sub (by decide)) (Or.inl rfl)
            have t52 := J45.up t25
            have E53 : rE M0 M42 o0 1 (i1_1.toInt + 0) := E30.trans f49 (by decide) (yR.2 5 _ _ rfl 44).1 (by decide) (by omega)
            have := f49.w
            obtain ⟨s54, e55⟩ : ∃ s9 : p_S, p_cmp pb pn pa (r7 + 1) s2 = s9 := ⟨_, rfl⟩
            rw [e55] at f51
            have := f51.w
            refine mv_iload_n d_TrustDeskModel_part_0_84 rfl rfl ?_
            have := mz_hi i1_1
            refine mv_if_eqZ (tgt := 94) (a := i1_1.toInt) d_TrustDeskModel_part_0_85 (by decide) rfl (fun b56 => ?_) (fun b56 => ?_)
            · exact mv_vret d_TrustDeskModel_part_0_94 rfl ⟨_, I46, rfl, R48, E53.less (by omega), (by have := R48.1 15 _ _ rfl; have := R48.1 16 _ _ rfl; have := R48.1 19 _ _ rfl; have := E53.f yS; omega), (by first | (have := Z931.n4 (by omega) (by omega); have := pW0 (Im.o d32) (by omega); have := Z931.wk; have hX := e4.symm.trans (p_lp_stop (show (p_no1 pb pn) s2 = s2 from if_neg (fun h9 => by omega))); rw [show p_ter pb pn pa (r7 + 1) (p_oc pb pn pa (r7 + 1)) ps = s54 from (by have hop : (p_oc pb pn pa (r7 + 1)) s2 = p_sg pb pn 93 (p_con pb pn pa r7 (p_oc pb pn pa r7) (p_nx s2)) := rfl; unfold p_ter; rw [hX]; unfold p_te1; (try simp only [hop]); (try simp only [hX, e55]); ((repeat' (first | (with_reducible rfl) | split)) <;> (exfalso; omega)))]; exact f51) | (exfalso; have := R48.1 15 _ _ rfl; have := R48.1 16 _ _ rfl; have := R48.1 19 _ _ rfl; have := E53.f yS; omega))⟩
            · refine mv_aload_n d_TrustDeskModel_part_0_88 rfl rfl ?_
              refine mv_bipush (v := (-9)) d_TrustDeskModel_part_0_89 (by decide) ?_
              obtain ⟨_, b63, -⟩ := I46.1 _ _ t52
              have : ((-9) : Int32).toInt = (-9) := by decide
              refine mv_callV (kc' := 0) (ks' := 0) (As := [.int (-9)]) (st9 := [.int (-9), .ref o0]) d_TrustDeskModel_part_0_91 lV_TrustDeskModel_279 b63 rfl (tc_TrustDeskModel_emits_x (d := (d + E + 11)) (x9 := x9) (o0 := o0) (x1 := (-9)) t52 R48 (by have := R48.1 15 _ _ rfl; have := R48.1 16 _ _ rfl; have := R48.1 19 _ _ rfl; have := E53.f yS; omega) (by decide) I46.start) rfl (Nat.le_of_ble_eq_true rfl) (Nat.le_of_ble_eq_true rfl) (Nat.le_of_ble_eq_true rfl) (hst := rfl) (fun b57r M58 n59 b57 => ?_)
              obtain ⟨T60, J61, rfl, R64, f65⟩ := b57
              have I62 := I46.call J61 (tm_sub (by decide)) (Or.inl rfl)
              have t66 := J61.up t52
              have z67 := (rv_c I46 J61 (I46.up h_o0) (k := 16) rfl)
              have z68 := (rv_c I46 J61 (I46.up h_o0) (k := 17) rfl)
              have z69 := (rv_c I46 J61 (I46.up h_o0) (k := 19) rfl)
              have z70 := (rv_c I46 J61 (I46.up h_o0) (k := 22) rfl)
              have E71 : rE M0 M58 o0 1 (i1_1.toInt + (-1)) := E53.emit f65 (rE_hv I46 J61 (I46.up h_o0) 15 19 (by decide)) (yR.2 5 _ _ rfl 44).1 (by decide) (Or.inr (Or.inl ⟨by decide, by decide, by decide⟩)) (by omega)
              have Z972 : pO M58 o0 pb pn pa s54 := f51.same (rE_hv I46 J61 (I46.up h_o0) 14 20 (by decide)) (rv_c I46 J61 (I46.up h_o0) (k := 23) rfl) (ra_call I46 J61 (I46.up h_o0) (k := 13) rfl rfl rfl)
              exact mv_vret d_TrustDeskModel_part_0_94 rfl ⟨_, I62, rfl, R64, E71.less (by omega), (by have := R64.1 15 _ _ rfl; have := R64.1 16 _ _ rfl; have := R64.1 19 _ _ rfl; have := E71.f yS; omega), (by first | (have := Z931.n4 (by omega) (by omega); have := pW0 (Im.o d32) (by omega); have := Z931.wk; have hX := e4.symm.trans (p_lp_stop (show (p_no1 pb pn) s2 = s2 from if_neg (fun h9 => by omega))); rw [show p_ter pb pn pa (r7 + 1) (p_oc pb pn pa (r7 + 1)) ps = s54 from (by have hop : (p_oc pb pn pa (r7 + 1)) s2 = p_sg pb pn 93 (p_con pb pn pa r7 (p_oc pb pn pa r7) (p_nx s2)) := rfl; unfold p_ter; rw [hX]; unfold p_te1; (try simp only [hop]); (try simp only [hX, e55]); ((repeat' (first | (with_reducible rfl) | split)) <;> (exfalso; omega)))]; exact Z972) | (exfalso; have := R64.1 15 _ _ rfl; have := R64.1 16 _ _ rfl; have := R64.1 19 _ _ rfl; have := E71.f yS; omega))⟩
          · refine mv_aload_n d_TrustDeskModel_isSign_8 rfl rfl ?_
            obtain ⟨v74, q73⟩ := tm_atI I16 t25 (k := 18) rfl
            refine tr_getK q73 d_TrustDeskModel_isSign_9 f_TrustDeskModel_201_13 ?_
            have := R21.f (k := 18) q73 rfl
            have := tm_rv q73
            refine mv_iload_n d_TrustDeskModel_isSign_12 rfl rfl ?_
            have := mz_hi v74
            refine mv_icmp_neZ (tgt := 20) (a := v74.toInt) (b := 91) d_TrustDeskModel_isSign_13 (by decide) rfl (by decide) (fun b75 => ?_) (fun b75 => ?_)
            · refine mv_iconst (v := 0) d_TrustDeskModel_isSign_20 (by decide) ?_
              refine mv_iret d_TrustDeskModel_isSign_21 rfl (by decide) ?_
              refine mv_if_eq_t (tgt := 80) d_TrustDeskModel_part_0_50 (by decide) (by decide) ?_
              refine mv_aload_n d_TrustDeskModel_part_0_80 rfl rfl ?_
              obtain ⟨_, b82, -⟩ := I16.1 _ _ t25
              refine mv_callV (kc' := 0) (ks' := 0) (As := []) (st9 := [.ref o0]) d_TrustDeskModel_part_0_81 lV_TrustDeskModel_305 b82 rfl (tg_TrustDeskModel_compares hK9 H_sum H_cond (d := d) (x9 := x9) (o0 := o0) t25 R21 E30.1 (by have := R21.1 15 _ _ rfl; have := R21.1 16 _ _ rfl; have := R21.1 19 _ _ rfl; have := E30.f yS; omega) (by have := R21.1 15 _ _ rfl; have := R21.1 16 _ _ rfl; have := R21.1 19 _ _ rfl; have := E30.f yS; omega) Z931 I16.start) rfl (Nat.le_of_ble_eq_true rfl) (Nat.le_of_ble_eq_true rfl) (Nat.le_of_ble_eq_true rfl) (hst := rfl) (fun b76r M77 n78 b76 => ?_)
              obtain ⟨T79, J80, rfl, R83, f84, f85, f86⟩ := b76
              have I81 := I16.call J80 (tm_sub (by decide)) (Or.inl rfl)
              have t87 := J80.up t25
              have E88 : rE M0 M77 o0 1 (i1_1.toInt + 0) := E30.trans f84 (by decide) (yR.2 5 _ _ rfl 44).1 (by decide) (by omega)
              have := f84.w
              obtain ⟨s89, e90⟩ : ∃ s9 : p_S, p_cmp pb pn pa (r7 + 1) s2 = s9 := ⟨_, rfl⟩
              rw [e90] at f86
              have := f86.w
              refine mv_iload_n d_TrustDeskModel_part_0_84 rfl rfl ?_
              have := mz_hi i1_1
              refine mv_if_eqZ (tgt := 94) (a := i1_1.toInt) d_TrustDeskModel_part_0_85 (by decide) rfl (fun b91 => ?_) (fun b91 => ?_)
              · exact mv_vret d_TrustDeskModel_part_0_94 rfl ⟨_, I81, rfl, R83, E88.less (by omega), (by have := R83.1 15 _ _ rfl; have := R83.1 16 _ _ rfl; have := R83.1 19 _ _ rfl; have := E88.f yS; omega), (by first | (have := Z931.s4 (by omega) (by omega); have := pW0 (Im.o d32) (by omega); have := Z931.wk; have hX := e4.symm.trans (p_lp_stop (show (p_no1 pb pn) s2 = s2 from if_neg (fun h9 => by omega))); rw [show p_ter pb pn pa (r7 + 1) (p_oc pb pn pa (r7 + 1)) ps = s89 from (by have hop : (p_oc pb pn pa (r7 + 1)) s2 = p_sg pb pn 93 (p_con pb pn pa r7 (p_oc pb pn pa r7) (p_nx s2)) := rfl; unfold p_ter; rw [hX]; unfold p_te1; (try simp only [hop]); (try simp only [hX, e90]); ((repeat' (first | (with_reducible rfl) | split)) <;> (exfalso; omega)))]; exact f86) | (exfalso; have := R83.1 15 _ _ rfl; have := R83.1 16 _ _ rfl; have := R83.1 19 _ _ rfl; have := E88.f yS; omega))⟩
              · refine mv_aload_n d_TrustDeskModel_part_0_88 rfl rfl ?_
                refine mv_bipush (v := (-9)) d_TrustDeskModel_part_0_89 (by decide) ?_
                obtain ⟨_, b98, -⟩ := I81.1 _ _ t87
                have : ((-9) : Int32).toInt = (-9) := by decide
                refine mv_callV (kc' := 0) (ks' := 0) (As := [.int (-9)]) (st9 := [.int (-9), .ref o0]) d_TrustDeskModel_part_0_91 lV_TrustDeskModel_279 b98 rfl (tc_TrustDeskModel_emits_x (d := (d + E + 11)) (x9 := x9) (o0 := o0) (x1 := (-9)) t87 R83 (by have := R83.1 15 _ _ rfl; have := R83.1 16 _ _ rfl; have := R83.1 19 _ _ rfl; have := E88.f yS; omega) (by decide) I81.start) rfl (Nat.le_of_ble_eq_true rfl) (Nat.le_of_ble_eq_true rfl) (Nat.le_of_ble_eq_true rfl) (hst := rfl) (fun b92r M93 n94 b92 => ?_)
                obtain ⟨T95, J96, rfl, R99, f100⟩ := b92
                have I97 := I81.call J96 (tm_sub (by decide)) (Or.inl rfl)
                have t101 := J96.up t87
                have z102 := (rv_c I81 J96 (I81.up h_o0) (k := 16) rfl)
                have z103 := (rv_c I81 J96 (I81.up h_o0) (k := 17) rfl)
                have z104 := (rv_c I81 J96 (I81.up h_o0) (k := 19) rfl)
                have z105 := (rv_c I81 J96 (I81.up h_o0) (k := 22) rfl)
                have E106 : rE M0 M93 o0 1 (i1_1.toInt + (-1)) := E88.emit f100 (rE_hv I81 J96 (I81.up h_o0) 15 19 (by decide)) (yR.2 5 _ _ rfl 44).1 (by decide) (Or.inr (Or.inl ⟨by decide, by decide, by decide⟩)) (by omega)
                have Z9107 : pO M93 o0 pb pn pa s89 := f86.same (rE_hv I81 J96 (I81.up h_o0) 14 20 (by decide)) (rv_c I81 J96 (I81.up h_o0) (k := 23) rfl) (ra_call I81 J96 (I81.up h_o0) (k := 13) rfl rfl rfl)
                exact mv_vret d_TrustDeskModel_part_0_94 rfl ⟨_, I97, rfl, R99, E106.less (by omega), (by have := R99.1 15 _ _ rfl; have := R99.1 16 _ _ rfl; have := R99.1 19 _ _ rfl; have := E106.f yS; omega), (by first | (have := Z931.s4 (by omega) (by omega); have := pW0 (Im.o d32) (by omega); have := Z931.wk; have hX := e4.symm.trans (p_lp_stop (show (p_no1 pb pn) s2 = s2 from if_neg (fun h9 => by omega))); rw [show p_ter pb pn pa (r7 + 1) (p_oc pb pn pa (r7 + 1)) ps = s89 from (by have hop : (p_oc pb pn pa (r7 + 1)) s2 = p_sg pb pn 93 (p_con pb pn pa r7 (p_oc pb pn pa r7) (p_nx s2)) := rfl; unfold p_ter; rw [hX]; unfold p_te1; (try simp only [hop]); (try simp only [hX, e90]); ((repeat' (first | (with_reducible rfl) | split)) <;> (exfalso; omega)))]; exact Z9107) | (exfalso; have := R99.1 15 _ _ rfl; have := R99.1 16 _ _ rfl; have := R99.1 19 _ _ rfl; have := E106.f yS; omega))⟩
            · refine mv_iconst (v := 1) d_TrustDeskModel_isSign_16 (by decide) ?_
              refine mv_goto (tgt := 21) d_TrustDeskModel_isSign_17 (by decide) ?_
              refine mv_iret d_TrustDeskModel_isSign_21 rfl (by decide) ?_
              refine mv_if_eq_f (tgt := 80) d_TrustDeskModel_part_0_50 (by decide) (by decide) ?_
              refine mv_aload_n d_TrustDeskModel_part_0_53 rfl rfl ?_
              obtain ⟨_, b114, -⟩ := I16.1 _ _ t25
              refine mv_callV (kc' := 0) (ks' := 0) (As := []) (st9 := [.ref o0]) d_TrustDeskModel_part_0_54 lV_TrustDeskModel_285 b114 rfl (tc_TrustDeskModel_opens_x (d := (d + E + 10)) (x9 := x9) (o0 := o0) t25 R21 E30.1 (by have := R21.1 15 _ _ rfl; have := R21.1 16 _ _ rfl; have := R21.1 19 _ _ rfl; have := E30.f yS; omega) (by have := R21.1 15 _ _ rfl; have := R21.1 16 _ _ rfl; have := R21.1 19 _ _ rfl; have := E30.f yS; omega) (by have := R21.1 15 _ _ rfl; have := R21.1 16 _ _ rfl; have := R21.1 19 _ _ rfl; have := E30.f yS; omega) (by have := R21.1 15 _ _ rfl; have := R21.1 16 _ _ rfl; have := R21.1 19 _ _ rfl; have := E30.f yS; omega) Z931 I16.start) rfl (Nat.le_of_ble_eq_true rfl) (Nat.le_of_ble_eq_true rfl) (Nat.le_of_ble_eq_true rfl) (hst := rfl) (fun b108r M109 n110 b108 => ?_)
              obtain ⟨T111, J112, rfl, R115, f116, f117, f118⟩ := b108
              have I113 := I16.call J112 (tm_sub (by decide)) (Or.inl rfl)
              have t119 := J112.up t25
              have E120 : rE M0 M109 o0 0 (i1_1.toInt + 1) := E30.trans f116 (by decide) (yR.2 5 _ _ rfl 44).1 (by decide) (by omega)
              have := f116.w
              rw [if_neg (by have := R21.1 15 _ _ rfl; have := R21.1 16 _ _ rfl; have := R21.1 19 _ _ rfl; have := E30.f yS; omega)] at f118
              obtain ⟨s121, e122⟩ : ∃ s9 : p_S, p_nx s2 = s9 := ⟨_, rfl⟩
              rw [e122] at f118
              have := f118.w
              refine mv_aload_n d_TrustDeskModel_part_0_57 rfl rfl ?_
              obtain ⟨_, b129, -⟩ := I113.1 _ _ t119
              refine mv_callV (kc' := 0) (ks' := 0) (As := []) (st9 := [.ref o0]) d_TrustDeskModel_part_0_58 lV_TrustDeskModel_302 b129 rfl (H_cond (d := d) (x9 := x9) (o0 := o0) t119 R115 E120.1 (by have := R115.1 15 _ _ rfl; have := R115.1 16 _ _ rfl; have := R115.1 19 _ _ rfl; have := E120.f yS; omega) (by have := R115.1 15 _ _ rfl; have := R115.1 16 _ _ rfl; have := R115.1 19 _ _ rfl; have := E120.f yS; omega) f118 I113.start) rfl (Nat.le_of_ble_eq_true rfl) (Nat.le_of_ble_eq_true rfl) (Nat.le_of_ble_eq_true rfl) (hst := rfl) (fun b123r M124 n125 b123 => ?_)
              obtain ⟨T126, J127, rfl, R130, f131, f132, f133⟩ := b123
              have I128 := I113.call J127 (tm_sub (by decide)) (Or.inl rfl)
              have t134 := J127.up t119
              have E135 : rE M0 M124 o0 1 (i1_1.toInt + 1) := E120.trans f131 (by decide) (yR.2 5 _ _ rfl 44).1 (by decide) (by omega)
              have := f131.w
              obtain ⟨s136, e137⟩ : ∃ s9 : p_S, p_con pb pn pa r7 (p_oc pb pn pa r7) s121 = s9 := ⟨_, rfl⟩
              rw [e137] at f133
              have := f133.w
              refine mv_aload_n d_TrustDeskModel_part_0_61 rfl rfl ?_
              refine mv_bipush (v := 93) d_TrustDeskModel_part_0_62 (by decide) ?_
              obtain ⟨_, b144, -⟩ := I128.1 _ _ t134
              have : (93 : Int32).toInt = 93 := by decide
              refine mv_callV (kc' := 0) (ks' := 0) (As := [.int 93]) (st9 := [.int 93, .ref o0]) d_TrustDeskModel_part_0_64 lV_TrustDeskModel_291 b144 rfl (tc_TrustDeskModel_wantSign_x (d := (d + E + 10)) (x9 := x9) (o0 := o0) (x1 := 93) t134 R130 E135.1 (by have := R130.1 15 _ _ rfl; have := R130.1 16 _ _ rfl; have := R130.1 19 _ _ rfl; have := E135.f yS; omega) (by decide) f133 I128.start) rfl (Nat.le_of_ble_eq_true rfl) (Nat.le_of_ble_eq_true rfl) (Nat.le_of_ble_eq_true rfl) (hst := rfl) (fun b138r M139 n140 b138 => ?_)
              obtain ⟨T141, J142, rfl, R145, f146, f147⟩ := b138
              have I143 := I128.call J142 (tm_sub (by decide)) (Or.inl rfl)
              have t148 := J142.up t134
              have z149 := (rv_c I128 J142 (I128.up h_o0) (k := 22) rfl)
              have E150 : rE M0 M139 o0 1 (i1_1.toInt + 2) := E135.trans f146 (by decide) (yR.2 5 _ _ rfl 44).1 (by decide) (by omega)
              have := f146.w
              rw [show (93 : Int32).toInt = 93 from by decide] at f147
              obtain ⟨s151, e152⟩ : ∃ s9 : p_S, p_sg pb pn 93 s136 = s9 := ⟨_, rfl⟩
              rw [e152] at f147
              have := f147.w
              refine mv_aload_n d_TrustDeskModel_part_0_67 rfl rfl ?_
              refine mv_dup d_TrustDeskModel_part_0_68 rfl ?_
              obtain ⟨v154, q153⟩ := tm_atI I143 t148 (k := 22) rfl
              refine tr_getK q153 d_TrustDeskModel_part_0_69 f_TrustDeskModel_276_13 ?_
              have := (tm_rv q153).symm.trans z149
              have := tm_rv q153
              refine mv_iconst (v := 1) d_TrustDeskModel_part_0_72 (by decide) ?_
              refine mv_isub d_TrustDeskModel_part_0_73 ?_
              have : rv M139 o0 19 = 0 → (v154 - 1 : Int32).toInt = v154.toInt - 1 := fun h9 => mz_sub2 rfl (by decide) (by omega) (by omega)
              refine tr_putR (k := 22) I143 R145 t148 rfl ⟨_, rfl⟩ (fun _ h => by cases h) rfl (fun lo hi h => by cases h) (Or.inl (by decide)) d_TrustDeskModel_part_0_74 p_TrustDeskModel_276_13 rfl rfl (fun M155 I156 q157 K158 R159 A160 V161 => ?_)
              have z162 := (V161 16 (by decide))
              have z163 := (V161 17 (by decide))
              have z164 := (V161 19 (by decide))
              have z165 : rv M155 o0 22 = (v154 - 1).toInt := tm_rv q157
              have E166 : rE M0 M155 o0 1 (i1_1.toInt + 2) := E150.same (fun k h1 h2 => V161 k (by omega)) (fun k h1 h2 => A160 k (by omega))
              have Z9167 : pO M155 o0 pb pn pa s151 := f147.same (fun k h1 h2 => V161 k (by omega)) (V161 23 (by decide)) (A160 13 (by decide))
              refine mv_goto (tgt := 84) d_TrustDeskModel_part_0_77 (by decide) ?_
              refine mv_iload_n d_TrustDeskModel_part_0_84 rfl rfl ?_
              have := mz_hi i1_1
              refine mv_if_eqZ (tgt := 94) (a := i1_1.toInt) d_TrustDeskModel_part_0_85 (by decide) rfl (fun b168 => ?_) (fun b168 => ?_)
              · exact mv_vret d_TrustDeskModel_part_0_94 rfl ⟨_, I156, rfl, R159, E166.less (by omega), (by have := R159.1 15 _ _ rfl; have := R159.1 16 _ _ rfl; have := R159.1 19 _ _ rfl; have := E166.f yS; omega), (by first | (have := Z931.s4 (by omega) (by omega); have := pW0 (Im.o d32) (by omega); have := Z931.wk; have hX := e4.symm.trans (p_lp_stop (show (p_no1 pb pn) s2 = s2 from if_neg (fun h9 => by omega))); rw [show p_ter pb pn pa (r7 + 1) (p_oc pb pn pa (r7 + 1)) ps = s151 from (by have hop : (p_oc pb pn pa (r7 + 1)) s2 = p_sg pb pn 93 (p_con pb pn pa r7 (p_oc pb pn pa r7) (p_nx s2)) := rfl; unfold p_ter; rw [hX]; unfold p_te1; (try simp only [hop]); (try simp only [hX, e122, e137, e152]); ((repeat' (first | (with_reducible rfl) | split)) <;> (exfalso; omega)))]; exact Z9167) | (exfalso; have := R159.1 15 _ _ rfl; have := R159.1 16 _ _ rfl; have := R159.1 19 _ _ rfl; have := E166.f yS; omega))⟩
              · refine mv_aload_n d_TrustDeskModel_part_0_88 rfl rfl ?_
                refine mv_bipush (v := (-9)) d_TrustDeskModel_part_0_89 (by decide) ?_
                obtain ⟨_, b175, -⟩ := I156.1 _ _ t148
                have : ((-9) : Int32).toInt = (-9) := by decide
                refine mv_callV (kc' := 0) (ks' := 0) (As := [.int (-9)]) (st9 := [.int (-9), .ref o0]) d_TrustDeskModel_part_0_91 lV_TrustDeskModel_279 b175 rfl (tc_TrustDeskModel_emits_x (d := (d + E + 11)) (x9 := x9) (o0 := o0) (x1 := (-9)) t148 R159 (by have := R159.1 15 _ _ rfl; have := R159.1 16 _ _ rfl; have := R159.1 19 _ _ rfl; have := E166.f yS; omega) (by decide) I156.start) rfl (Nat.le_of_ble_eq_true rfl) (Nat.le_of_ble_eq_true rfl) (Nat.le_of_ble_eq_true rfl) (hst := rfl) (fun b169r M170 n171 b169 => ?_)
                obtain ⟨T172, J173, rfl, R176, f177⟩ := b169
                have I174 := I156.call J173 (tm_sub (by decide)) (Or.inl rfl)
                have t178 := J173.up t148
                have z179 := (rv_c I156 J173 (I156.up h_o0) (k := 16) rfl).trans z162
                have z180 := (rv_c I156 J173 (I156.up h_o0) (k := 17) rfl).trans z163
                have z181 := (rv_c I156 J173 (I156.up h_o0) (k := 19) rfl).trans z164
                have z182 := (rv_c I156 J173 (I156.up h_o0) (k := 22) rfl).trans z165
                have E183 : rE M0 M170 o0 1 (i1_1.toInt + 1) := E166.emit f177 (rE_hv I156 J173 (I156.up h_o0) 15 19 (by decide)) (yR.2 5 _ _ rfl 44).1 (by decide) (Or.inr (Or.inl ⟨by decide, by decide, by decide⟩)) (by omega)
                have Z9184 : pO M170 o0 pb pn pa s151 := Z9167.same (rE_hv I156 J173 (I156.up h_o0) 14 20 (by decide)) (rv_c I156 J173 (I156.up h_o0) (k := 23) rfl) (ra_call I156 J173 (I156.up h_o0) (k := 13) rfl rfl rfl)
                clear z162 z163 z164 z165
                have q185 := J173.keep t148 (by decide) q157
                exact mv_vret d_TrustDeskModel_part_0_94 rfl ⟨_, I174, rfl, R176, E183.less (by omega), (by have := R176.1 15 _ _ rfl; have := R176.1 16 _ _ rfl; have := R176.1 19 _ _ rfl; have := E183.f yS; omega), (by first | (have := Z931.s4 (by omega) (by omega); have := pW0 (Im.o d32) (by omega); have := Z931.wk; have hX := e4.symm.trans (p_lp_stop (show (p_no1 pb pn) s2 = s2 from if_neg (fun h9 => by omega))); rw [show p_ter pb pn pa (r7 + 1) (p_oc pb pn pa (r7 + 1)) ps = s151 from (by have hop : (p_oc pb pn pa (r7 + 1)) s2 = p_sg pb pn 93 (p_con pb pn pa r7 (p_oc pb pn pa r7) (p_nx s2)) := rfl; unfold p_ter; rw [hX]; unfold p_te1; (try simp only [hop]); (try simp only [hX, e122, e137, e152]); ((repeat' (first | (with_reducible rfl) | split)) <;> (exfalso; omega)))]; exact Z9184) | (exfalso; have := R176.1 15 _ _ rfl; have := R176.1 16 _ _ rfl; have := R176.1 19 _ _ rfl; have := E183.f yS; omega))⟩
        · refine mv_aload_n d_TrustDeskModel_part_0_19 rfl rfl ?_
          obtain ⟨_, b192, -⟩ := I16.1 _ _ t25
          refine mv_callV (kc' := 0) (ks' := 0) (As := []) (st9 := [.ref o0]) d_TrustDeskModel_part_0_20 lV_TrustDeskModel_237 b192 rfl (tc_TrustDeskModel_next_x (d := (d + E + 11)) (x9 := x9) (o0 := o0) t25 R21 Z931.p I16.start) rfl (Nat.le_of_ble_eq_true rfl) (Nat.le_of_ble_eq_true rfl) (Nat.le_of_ble_eq_true rfl) (hst := rfl) (fun b186r M187 n188 b186 => ?_)
          obtain ⟨T189, J190, rfl, R193, f194, f195, f196⟩ := b186
          have I191 := I16.call J190 (tm_sub (by decide)) (Or.inl rfl)
          have t197 := J190.up t25
          have z198 := (rv_c I16 J190 (I16.up h_o0) (k := 19) rfl).trans z28
          have z199 := (rv_c I16 J190 (I16.up h_o0) (k := 22) rfl).trans z29
          have h201 : rv M12 o0 16 + 1 ≤ rv M12 o0 15 := (by have := R21.1 15 _ _ rfl; have := R21.1 16 _ _ rfl; have := R21.1 19 _ _ rfl; have := E30.f yS; omega)
          have E200 : rE M0 M187 o0 0 (i1_1.toInt + 1) := E30.next f194 f195 (rv_c I16 J190 (I16.up h_o0) (k := 19) rfl) (rE_ha I16 J190 (I16.up h_o0) (by decide)) (e := 1) h201 (by omega)
          obtain ⟨s202, e203⟩ : ∃ s9 : p_S, p_nx s2 = s9 := ⟨_, rfl⟩
          rw [e203] at f196
          have := f196.w
          clear z28 z29
          have q204 := J190.keep t25 (by decide) q33
          refine mv_iload_n d_TrustDeskModel_part_0_23 rfl rfl ?_
          have := mz_hi i1_1
          refine mv_if_neZ (tgt := 31) (a := i1_1.toInt) d_TrustDeskModel_part_0_24 (by decide) rfl (fun b205 => ?_) (fun b205 => ?_)
          · refine mv_iconst (v := 0) d_TrustDeskModel_part_0_31 (by decide) ?_
            refine mv_istore_n (lv' := [(1, .int 0), (0, .ref o0)]) d_TrustDeskModel_part_0_32 rfl (by decide) rfl ?_
            refine mv_goto (tgt := 2) d_TrustDeskModel_part_0_33 (by decide) ?_
            have T206 : ∃ s1 : p_S, pO M187 o0 pb pn pa s1 ∧ p_lp pn (p_no1 pb pn) s1 = p_lp pn (p_no1 pb pn) ps := ⟨s202, f196, (by have st : (p_no1 pb pn) s2 = s202 := (by have := pW1 (Im.o d32) (by omega); have := Z931.wk; rw [show (p_no1 pb pn) s2 = p_nx s2 from if_pos ⟨by omega, by omega⟩]; simp only [e203]); rw [← st, p_P.go p_no1_P s2]; exact e4)⟩
            have E207 : rE M0 M187 o0 0 0 := E200.less (by omega)
            exact (ih1 0 T189 M187 n188 I191 t197 (by have := R193.1 15 _ _ rfl; have := R193.1 16 _ _ rfl; have := R193.1 19 _ _ rfl; have := E207.f yS; first | omega | decide | exact fun h9 => absurd (by decide) h9) (by have := R193.1 15 _ _ rfl; have := R193.1 16 _ _ rfl; have := R193.1 19 _ _ rfl; have := E207.f yS; first | omega | decide | exact fun h9 => absurd (by decide) h9) (by have := R193.1 15 _ _ rfl; have := R193.1 16 _ _ rfl; have := R193.1 19 _ _ rfl; have := E207.f yS; first | omega | decide | exact fun h9 => absurd (by decide) h9) R193 E207 T206 (by have := R193.1 15 _ _ rfl; have := R193.1 16 _ _ rfl; have := R193.1 19 _ _ rfl; have := E207.f yS; omega))
          · refine mv_iconst (v := 1) d_TrustDeskModel_part_0_27 (by decide) ?_
            refine mv_goto (tgt := 32) d_TrustDeskModel_part_0_28 (by decide) ?_
            refine mv_istore_n (lv' := [(1, .int 1), (0, .ref o0)]) d_TrustDeskModel_part_0_32 rfl (by decide) rfl ?_
            refine mv_goto (tgt := 2) d_TrustDeskModel_part_0_33 (by decide) ?_
            have T208 : ∃ s1 : p_S, pO M187 o0 pb pn pa s1 ∧ p_lp pn (p_no1 pb pn) s1 = p_lp pn (p_no1 pb pn) ps := ⟨s202, f196, (by have st : (p_no1 pb pn) s2 = s202 := (by have := pW1 (Im.o d32) (by omega); have := Z931.wk; rw [show (p_no1 pb pn) s2 = p_nx s2 from if_pos ⟨by omega, by omega⟩]; simp only [e203]); rw [← st, p_P.go p_no1_P s2]; exact e4)⟩
            have E209 : rE M0 M187 o0 0 1 := E200.less (by omega)
            exact (ih1 1 T189 M187 n188 I191 t197 (by have := R193.1 15 _ _ rfl; have := R193.1 16 _ _ rfl; have := R193.1 19 _ _ rfl; have := E209.f yS; first | omega | decide | exact fun h9 => absurd (by decide) h9) (by have := R193.1 15 _ _ rfl; have := R193.1 16 _ _ rfl; have := R193.1 19 _ _ rfl; have := E209.f yS; first | omega | decide | exact fun h9 => absurd (by decide) h9) (by have := R193.1 15 _ _ rfl; have := R193.1 16 _ _ rfl; have := R193.1 19 _ _ rfl; have := E209.f yS; first | omega | decide | exact fun h9 => absurd (by decide) h9) R193 E209 T208 (by have := R193.1 15 _ _ rfl; have := R193.1 16 _ _ rfl; have := R193.1 19 _ _ rfl; have := E209.f yS; omega))
  have T210 : ∃ s1 : p_S, pO M0 o0 pb pn pa s1 ∧ p_lp pn (p_no1 pb pn) s1 = p_lp pn (p_no1 pb pn) ps := ⟨ps, yO, rfl⟩
  exact mv_less (Nat.zero_le _) (Nat.zero_le _) (L2_1 4294967296 0 T0 M0 n0 I0 h_o0 (by have := yR.1 15 _ _ rfl; have := yR.1 16 _ _ rfl; have := yR.1 19 _ _ rfl; have := yE0.f yS; first | omega | decide | exact fun h9 => absurd (by decide) h9) (by have := yR.1 15 _ _ rfl; have := yR.1 16 _ _ rfl; have := yR.1 19 _ _ rfl; have := yE0.f yS; first | omega | decide | exact fun h9 => absurd (by decide) h9) (by have := yR.1 15 _ _ rfl; have := yR.1 16 _ _ rfl; have := yR.1 19 _ _ rfl; have := yE0.f yS; first | omega | decide | exact fun h9 => absurd (by decide) h9) yR yE0 T210 (by have := yR.1 15 _ _ rfl; have := yR.1 16 _ _ rfl; have := yR.1 19 _ _ rfl; have := yE0.f yS; omega))
set_option maxHeartbeats 100000000 in theorem tg_TrustDeskModel_both {E r7 : Nat} {K K1 : Int} (hK9 : K1 = K + 1 ∧ 0 ≤ K ∧ K ≤ 3) (H_sum : ∀ {g : mj_G} {l : Launch} {d : Nat} {T0 : tm_H} {M0 : mj_M} {n0 x9 : Nat} {o0 : Nat} (h_o0 : T0 o0 = some (0, 13, 0)) (yR : rI M0 o0) (yT : rT M0 o0) (yS : rv M0 o0 19 = 0 → ra M0 o0 5 44 ≤ rv M0 o0 16) (yL : rv M0 o0 19 ≠ 0 ∨ (K1 ≤ rv M0 o0 22 ∧ rv M0 o0 22 ≤ K1)) {pb : Nat → Int} {pn : Nat} {pa : Int} {ps : p_S} (yO : pO M0 o0 pb pn pa ps) (I0 : tm_I tm_FT (tm_in w_TrustDeskModel_sum_q1_x) x9 T0 M0 n0 T0 M0 n0), mj_Met g l kY_TrustDeskModel_sum (d + E + 8) [.ref o0] M0 n0 0 0 (tm_Q tm_FT (tm_in w_TrustDeskModel_sum_q1_x) x9 T0 M0 n0 (fun r _ M => r = none ∧ rI M o0 ∧ (rE M0 M o0 1 0) ∧ (rv M o0 19 = 0 → rv M o0 22 = rv M0 o0 22) ∧ (pO M o0 pb pn pa (p_sum pb pn pa (p_op pb pn pa r7) ps))))) (H_cond : ∀ {g : mj_G} {l : Launch} {d : Nat} {T0 : tm_H} {M0 : mj_M} {n0 x9 : Nat} {o0 : Nat} (h_o0 : T0 o0 = some (0, 13, 0)) (yR : rI M0 o0) (yT : rT M0 o0) (yS : rv M0 o0 19 = 0 → ra M0 o0 5 44 ≤ rv M0 o0 16) (yL : rv M0 o0 19 ≠ 0 ∨ (K1 ≤ rv M0 o0 22 ∧ rv M0 o0 22 ≤ K1)) {pb : Nat → Int} {pn : Nat} {pa : Int} {ps : p_S} (yO : pO M0 o0 pb pn pa ps) (I0 : tm_I tm_FT (tm_in w_TrustDeskModel_cond_q1_x) x9 T0 M0 n0 T0 M0 n0), mj_Met g l kY_TrustDeskModel_cond (d + E + 12) [.ref o0] M0 n0 0 0 (tm_Q tm_FT (tm_in w_TrustDeskModel_cond_q1_x) x9 T0 M0 n0 (fun r _ M => r = none ∧ rI M o0 ∧ (rE M0 M o0 1 0) ∧ (rv M o0 19 = 0 → rv M o0 22 = rv M0 o0 22) ∧ (pO M o0 pb pn pa (p_con pb pn pa r7 (p_oc pb pn pa r7) ps))))) {g : mj_G} {l : Launch} {d : Nat} {T0 : tm_H} {M0 : mj_M} {n0 x9 : Nat} {o0 : Nat} (h_o0 : T0 o0 = some (0, 13, 0)) (yR : rI M0 o0) (yT : rT M0 o0) (yS : rv M0 o0 19 = 0 → ra M0 o0 5 44 ≤ rv M0 o0 16) (yL : rv M0 o0 19 ≠ 0 ∨ (K ≤ rv M0 o0 22 ∧ rv M0 o0 22 ≤ K)) {pb : Nat → Int} {pn : Nat} {pa : Int} {ps : p_S} (yO : pO M0 o0 pb pn pa ps) (I0 : tm_I tm_FT (tm_in w_TrustDeskModel_both_q1_x) x9 T0 M0 n0 T0 M0 n0) : mj_Met g l kY_TrustDeskModel_both (d + E + 14) [.ref o0] M0 n0 0 0 (tm_Q tm_FT (tm_in w_TrustDeskModel_both_q1_x) x9 T0 M0 n0 (fun r _ M => r = none ∧ rI M o0 ∧ (rE M0 M o0 1 0) ∧ (rv M o0 19 = 0 → rv M o0 22 = rv M0 o0 22) ∧ (pO M o0 pb pn pa (p_bot pb pn pa (r7 + 1) (p_oc pb pn pa (r7 + 1)) ps)))) := by
  refine mj_enter (by decide) (Nat.le_of_ble_eq_true rfl) ?_
  have yE0 := rE.rf yT
  have := yO.w
  refine mv_aload_n d_TrustDeskModel_both_0 rfl rfl ?_
  obtain ⟨_, b7, -⟩ := I0.1 _ _ h_o0
  refine mv_callV (kc' := 0) (ks' := 0) (As := []) (st9 := [.ref o0]) d_TrustDeskModel_both_1 lV_TrustDeskModel_308 b7 rfl (tg_TrustDeskModel_part_0 hK9 H_sum H_cond (d := d) (x9 := x9) (o0 := o0) h_o0 yR yE0.1 (by have := yR.1 15 _ _ rfl; have := yR.1 16 _ _ rfl; have := yR.1 19 _ _ rfl; have := yE0.f yS; omega) (by have := yR.1 15 _ _ rfl; have := yR.1 16 _ _ rfl; have := yR.1 19 _ _ rfl; have := yE0.f yS; omega) yO I0.start) rfl (Nat.le_of_ble_eq_true rfl) (Nat.le_of_ble_eq_true rfl) (Nat.le_of_ble_eq_true rfl) (hst := rfl) (fun b1r M2 n3 b1 => ?_)
  obtain ⟨T4, J5, rfl, R8, f9, f10, f11⟩ := b1
  have I6 := I0.call J5 (tm_sub (by decide)) (Or.inl rfl)
  have t12 := J5.up h_o0
  have E13 : rE M0 M2 o0 1 0 := yE0.trans f9 (by decide) (yR.2 5 _ _ rfl 44).1 (by decide) (by decide)
  have := f9.w
  obtain ⟨s14, e15⟩ : ∃ s9 : p_S, p_ter pb pn pa (r7 + 1) (p_oc pb pn pa (r7 + 1)) ps = s9 := ⟨_, rfl⟩
  rw [e15] at f11
  have := f11.w
  have L4_16 : ∀ (k : Nat) (T_16 : tm_H) (M_16 : mj_M) (n_16 : Nat), tm_I tm_FT (tm_in w_TrustDeskModel_both_q1_x) x9 T0 M0 n0 T_16 M_16 n_16 → T_16 o0 = some (0, 13, 0) → (rv M_16 o0 19 = 0 → rv M_16 o0 22 = rv M0 o0 22) → (rI M_16 o0) → (rE M0 M_16 o0 1 0) → (∃ s1 : p_S, pO M_16 o0 pb pn pa s1 ∧ p_lp pn (p_bo1 pb pn pa (r7 + 1) (p_oc pb pn pa (r7 + 1))) s1 = p_bot pb pn pa (r7 + 1) (p_oc pb pn pa (r7 + 1)) ps) → 5 * (401 - rv M_16 o0 16) - rv M_16 o0 19 < (k : Int) → mj_V g l kY_TrustDeskModel_both (d + E + 14) 4 [(0, .ref o0)] [] M_16 n_16 0 0 (tm_Q tm_FT (tm_in w_TrustDeskModel_both_q1_x) x9 T0 M0 n0 (fun r _ M => r = none ∧ rI M o0 ∧ (rE M0 M o0 1 0) ∧ (rv M o0 19 = 0 → rv M o0 22 = rv M0 o0 22) ∧ (pO M o0 pb pn pa (p_bot pb pn pa (r7 + 1) (p_oc pb pn pa (r7 + 1)) ps)))) := by
    intro k16
    induction k16 with
    | zero =>
      intro T_16 M_16 n_16 I_16 h_q0_16 iv0_16 kKR_16 kKE_16 kKT9_16 hk16
      have := kKR_16.1 15 _ _ rfl
      have := kKR_16.1 16 _ _ rfl
      have := kKR_16.1 19 _ _ rfl
      exfalso; omega
    | succ k16 ih16 =>
      intro T_16 M_16 n_16 I_16 h_q0_16 iv0_16 kKR_16 kKE_16 kKT9_16 hk16
      have := kKE_16.f yS
      obtain ⟨s17, Z918, e19⟩ := kKT9_16
      have := Z918.w
      refine mv_aload_n d_TrustDeskModel_both_4 rfl rfl ?_
      obtain ⟨_, b20, -⟩ := I_16.1 _ _ h_q0_16
      refine mv_callV (kc1 := 0) (ks1 := 0) (kc' := 0) (ks' := 0) (As := []) (st9 := [.ref o0]) d_TrustDeskModel_both_5 lV_TrustDeskModel_230 b20 rfl (mj_enter (by decide) (Nat.le_of_ble_eq_true rfl) ?_) rfl (Nat.le_of_ble_eq_true rfl) (Nat.le_of_ble_eq_true rfl) (Nat.le_of_ble_eq_true rfl) (hst := rfl) (fun _ _ _ h => h)
      refine mv_aload_n d_TrustDeskModel_isWell_0 rfl rfl ?_
      obtain ⟨v22, q21⟩ := tm_atI I_16 h_q0_16 (k := 19) rfl
      refine tr_getK q21 d_TrustDeskModel_isWell_1 f_TrustDeskModel_224_13 ?_
      have := kKR_16.f (k := 19) q21 rfl
      have := tm_rv q21
      have := mz_hi v22
      refine mv_if_neZ (tgt := 11) (a := v22.toInt) d_TrustDeskModel_isWell_4 (by decide) rfl (fun b23 => ?_) (fun b23 => ?_)
      · refine mv_iconst (v := 0) d_TrustDeskModel_isWell_11 (by decide) ?_
        refine mv_iret d_TrustDeskModel_isWell_12 rfl (by decide) ?_
        refine mv_if_eq_t (tgt := 38) d_TrustDeskModel_both_8 (by decide) (by decide) ?_
        exact mv_vret d_TrustDeskModel_both_38 rfl ⟨_, I_16, rfl, kKR_16, kKE_16, (by have := kKR_16.1 15 _ _ rfl; have := kKR_16.1 16 _ _ rfl; have := kKR_16.1 19 _ _ rfl; have := kKE_16.f yS; omega), (by first | (have hX := e19.symm.trans (p_lp_stop (show (p_bo1 pb pn pa (r7 + 1) (p_oc pb pn pa (r7 + 1))) s17 = s17 from if_neg (fun h9 => by omega))); rw [show p_bot pb pn pa (r7 + 1) (p_oc pb pn pa (r7 + 1)) ps = s17 from (by exact hX)]; exact Z918) | (exfalso; have := kKR_16.1 15 _ _ rfl; have := kKR_16.1 16 _ _ rfl; have := kKR_16.1 19 _ _ rfl; have := kKE_16.f yS; omega))⟩
      · refine mv_iconst (v := 1) d_TrustDeskModel_isWell_7 (by decide) ?_
        refine mv_goto (tgt := 12) d_TrustDeskModel_isWell_8 (by decide) ?_
        refine mv_iret d_TrustDeskModel_isWell_12 rfl (by decide) ?_
        refine mv_if_eq_f (tgt := 38) d_TrustDeskModel_both_8 (by decide) (by decide) ?_
        refine mv_aload_n d_TrustDeskModel_both_11 rfl rfl ?_
        refine mv_ldcSw (id := 40) (tx := "and") d_TrustDeskModel_both_12 (List.mem_of_getElem? (i := 30) rfl) ?_
        obtain ⟨_, b30, -⟩ := I_16.1 _ _ h_q0_16
        refine mv_callV (kc' := 0) (ks' := 0) (As := [.ref 40]) (st9 := [.ref 40, .ref o0]) d_TrustDeskModel_both_15 lV_TrustDeskModel_244 b30 rfl (tc_TrustDeskModel_isWord_s1_40_x (d := (d + E + 9)) (x9 := x9) (o0 := o0) h_q0_16 kKR_16 I_16.start) rfl (Nat.le_of_ble_eq_true rfl) (Nat.le_of_ble_eq_true rfl) (Nat.le_of_ble_eq_true rfl) (hst := rfl) (fun b24r M25 n26 b24 => ?_)
        obtain ⟨T27, J28, v31, rfl, b32, b33, R34, f35, f36, f37⟩ := b24
        have I29 := I_16.call J28 (tm_sub (by decide)) (Or.inl rfl)
        have t38 := J28.up h_q0_16
        replace f36 := Im.i f36
        replace f37 := Im.i f37
        have z39 := (rv_c I_16 J28 (I_16.up h_o0) (k := 16) rfl)
        have z40 := (rv_c I_16 J28 (I_16.up h_o0) (k := 17) rfl)
        have z41 := (rv_c I_16 J28 (I_16.up h_o0) (k := 19) rfl)
        have z42 := (rv_c I_16 J28 (I_16.up h_o0) (k := 22) rfl)
        have E43 : rE M0 M25 o0 1 0 := kKE_16.same (rE_hv I_16 J28 (I_16.up h_o0) 15 19 (by decide)) (rE_ha I_16 J28 (I_16.up h_o0) (by decide))
        have Z944 : pO M25 o0 pb pn pa s17 := Z918.same (rE_hv I_16 J28 (I_16.up h_o0) 14 20 (by decide)) (rv_c I_16 J28 (I_16.up h_o0) (k := 23) rfl) (ra_call I_16 J28 (I_16.up h_o0) (k := 13) rfl rfl rfl)
        have d45 := Im.i (pO.w_31 Z918 (by have := kKR_16.1 15 _ _ rfl; have := kKR_16.1 16 _ _ rfl; have := kKR_16.1 19 _ _ rfl; have := kKE_16.f yS; omega) (Im.o f36) (Im.o f37) (by have := kKR_16.1 15 _ _ rfl; have := kKR_16.1 16 _ _ rfl; have := kKR_16.1 19 _ _ rfl; have := kKE_16.f yS; omega))
        have q46 := J28.keep h_q0_16 (by decide) q21
        have := mz_hi v31
        refine mv_if_eqZ (tgt := 38) (a := v31.toInt) d_TrustDeskModel_both_18 (by decide) rfl (fun b47 => ?_) (fun b47 => ?_)
        · exact mv_vret d_TrustDeskModel_both_38 rfl ⟨_, I29, rfl, R34, E43, (by have := R34.1 15 _ _ rfl; have := R34.1 16 _ _ rfl; have := R34.1 19 _ _ rfl; have := E43.f yS; omega), (by first | (have := pW0 (Im.o d45) (by omega); have := Z944.wk; have hX := e19.symm.trans (p_lp_stop (show (p_bo1 pb pn pa (r7 + 1) (p_oc pb pn pa (r7 + 1))) s17 = s17 from if_neg (fun h9 => by omega))); rw [show p_bot pb pn pa (r7 + 1) (p_oc pb pn pa (r7 + 1)) ps = s17 from (by exact hX)]; exact Z944) | (exfalso; have := R34.1 15 _ _ rfl; have := R34.1 16 _ _ rfl; have := R34.1 19 _ _ rfl; have := E43.f yS; omega))⟩
        · refine mv_aload_n d_TrustDeskModel_both_21 rfl rfl ?_
          obtain ⟨_, b54, -⟩ := I29.1 _ _ t38
          refine mv_callV (kc' := 0) (ks' := 0) (As := []) (st9 := [.ref o0]) d_TrustDeskModel_both_22 lV_TrustDeskModel_237 b54 rfl (tc_TrustDeskModel_next_x (d := (d + E + 12)) (x9 := x9) (o0 := o0) t38 R34 Z944.p I29.start) rfl (Nat.le_of_ble_eq_true rfl) (Nat.le_of_ble_eq_true rfl) (Nat.le_of_ble_eq_true rfl) (hst := rfl) (fun b48r M49 n50 b48 => ?_)
          obtain ⟨T51, J52, rfl, R55, f56, f57, f58⟩ := b48
          have I53 := I29.call J52 (tm_sub (by decide)) (Or.inl rfl)
          have t59 := J52.up t38
          have z60 := (rv_c I29 J52 (I29.up h_o0) (k := 19) rfl).trans z41
          have z61 := (rv_c I29 J52 (I29.up h_o0) (k := 22) rfl).trans z42
          have h63 : rv M25 o0 16 + 1 ≤ rv M25 o0 15 := (by have := R34.1 15 _ _ rfl; have := R34.1 16 _ _ rfl; have := R34.1 19 _ _ rfl; have := E43.f yS; omega)
          have E62 : rE M0 M49 o0 1 1 := E43.next f56 f57 (rv_c I29 J52 (I29.up h_o0) (k := 19) rfl) (rE_ha I29 J52 (I29.up h_o0) (by decide)) (e := 1) h63 (by decide)
          obtain ⟨s64, e65⟩ : ∃ s9 : p_S, p_nx s17 = s9 := ⟨_, rfl⟩
          rw [e65] at f58
          have := f58.w
          clear z41 z42
          have q66 := J52.keep t38 (by decide) q46
          refine mv_aload_n d_TrustDeskModel_both_25 rfl rfl ?_
          obtain ⟨_, b73, -⟩ := I53.1 _ _ t59
          refine mv_callV (kc' := 0) (ks' := 0) (As := []) (st9 := [.ref o0]) d_TrustDeskModel_both_26 lV_TrustDeskModel_308 b73 rfl (tg_TrustDeskModel_part_0 hK9 H_sum H_cond (d := d) (x9 := x9) (o0 := o0) t59 R55 E62.1 (by have := R55.1 15 _ _ rfl; have := R55.1 16 _ _ rfl; have := R55.1 19 _ _ rfl; have := E62.f yS; omega) (by have := R55.1 15 _ _ rfl; have := R55.1 16 _ _ rfl; have := R55.1 19 _ _ rfl; have := E62.f yS; omega) f58 I53.start) rfl (Nat.le_of_ble_eq_true rfl) (Nat.le_of_ble_eq_true rfl) (Nat.le_of_ble_eq_true rfl) (hst := rfl) (fun b67r M68 n69 b67 => ?_)
          obtain ⟨T70, J71, rfl, R74, f75, f76, f77⟩ := b67
          have I72 := I53.call J71 (tm_sub (by decide)) (Or.inl rfl)
          have t78 := J71.up t59
          have E79 : rE M0 M68 o0 2 1 := E62.trans f75 (by decide) (yR.2 5 _ _ rfl 44).1 (by decide) (by decide)
          have := f75.w
          obtain ⟨s80, e81⟩ : ∃ s9 : p_S, p_ter pb pn pa (r7 + 1) (p_oc pb pn pa (r7 + 1)) s64 = s9 := ⟨_, rfl⟩
          rw [e81] at f77
          have := f77.w
          refine mv_aload_n d_TrustDeskModel_both_29 rfl rfl ?_
          refine mv_bipush (v := (-7)) d_TrustDeskModel_both_30 (by decide) ?_
          obtain ⟨_, b88, -⟩ := I72.1 _ _ t78
          have : ((-7) : Int32).toInt = (-7) := by decide
          refine mv_callV (kc' := 0) (ks' := 0) (As := [.int (-7)]) (st9 := [.int (-7), .ref o0]) d_TrustDeskModel_both_32 lV_TrustDeskModel_279 b88 rfl (tc_TrustDeskModel_emits_x (d := (d + E + 12)) (x9 := x9) (o0 := o0) (x1 := (-7)) t78 R74 (by have := R74.1 15 _ _ rfl; have := R74.1 16 _ _ rfl; have := R74.1 19 _ _ rfl; have := E79.f yS; omega) (by decide) I72.start) rfl (Nat.le_of_ble_eq_true rfl) (Nat.le_of_ble_eq_true rfl) (Nat.le_of_ble_eq_true rfl) (hst := rfl) (fun b82r M83 n84 b82 => ?_)
          obtain ⟨T85, J86, rfl, R89, f90⟩ := b82
          have I87 := I72.call J86 (tm_sub (by decide)) (Or.inl rfl)
          have t91 := J86.up t78
          have z92 := (rv_c I72 J86 (I72.up h_o0) (k := 16) rfl)
          have z93 := (rv_c I72 J86 (I72.up h_o0) (k := 17) rfl)
          have z94 := (rv_c I72 J86 (I72.up h_o0) (k := 19) rfl)
          have z95 := (rv_c I72 J86 (I72.up h_o0) (k := 22) rfl)
          have E96 : rE M0 M83 o0 1 0 := E79.emit f90 (rE_hv I72 J86 (I72.up h_o0) 15 19 (by decide)) (yR.2 5 _ _ rfl 44).1 (by decide) (Or.inr (Or.inr ⟨by decide, by decide, by decide, by decide⟩)) (by decide)
          have Z997 : pO M83 o0 pb pn pa s80 := f77.same (rE_hv I72 J86 (I72.up h_o0) 14 20 (by decide)) (rv_c I72 J86 (I72.up h_o0) (k := 23) rfl) (ra_call I72 J86 (I72.up h_o0) (k := 13) rfl rfl rfl)
          refine mv_goto (tgt := 4) d_TrustDeskModel_both_35 (by decide) ?_
          have T98 : ∃ s1 : p_S, pO M83 o0 pb pn pa s1 ∧ p_lp pn (p_bo1 pb pn pa (r7 + 1) (p_oc pb pn pa (r7 + 1))) s1 = p_bot pb pn pa (r7 + 1) (p_oc pb pn pa (r7 + 1)) ps := ⟨s80, Z997, (by have st : (p_bo1 pb pn pa (r7 + 1) (p_oc pb pn pa (r7 + 1))) s17 = s80 := (by have := pW1 (Im.o d45) (by omega); have := Z944.wk; rw [show (p_bo1 pb pn pa (r7 + 1) (p_oc pb pn pa (r7 + 1))) s17 = p_ter pb pn pa (r7 + 1) (p_oc pb pn pa (r7 + 1)) (p_nx s17) from if_pos ⟨by omega, by omega⟩]; simp only [e65, e81]); rw [← st, p_P.go (p_bo1_P (p_oc_M _)) s17]; exact e19)⟩
          exact (ih16 T85 M83 n84 I87 t91 (by have := R89.1 15 _ _ rfl; have := R89.1 16 _ _ rfl; have := R89.1 19 _ _ rfl; have := E96.f yS; first | omega | decide | exact fun h9 => absurd (by decide) h9) R89 E96 T98 (by have := R89.1 15 _ _ rfl; have := R89.1 16 _ _ rfl; have := R89.1 19 _ _ rfl; have := E96.f yS; omega))
  have T99 : ∃ s1 : p_S, pO M2 o0 pb pn pa s1 ∧ p_lp pn (p_bo1 pb pn pa (r7 + 1) (p_oc pb pn pa (r7 + 1))) s1 = p_bot pb pn pa (r7 + 1) (p_oc pb pn pa (r7 + 1)) ps := ⟨s14, f11, (by rw [← e15]; rfl)⟩
  exact mv_less (Nat.zero_le _) (Nat.zero_le _) (L4_16 4294967296 T4 M2 n3 I6 t12 (by have := R8.1 15 _ _ rfl; have := R8.1 16 _ _ rfl; have := R8.1 19 _ _ rfl; have := E13.f yS; first | omega | decide | exact fun h9 => absurd (by decide) h9) R8 E13 T99 (by have := R8.1 15 _ _ rfl; have := R8.1 16 _ _ rfl; have := R8.1 19 _ _ rfl; have := E13.f yS; omega))
set_option maxHeartbeats 100000000 in theorem tg_TrustDeskModel_cond {E r7 : Nat} {K K1 : Int} (hK9 : K1 = K + 1 ∧ 0 ≤ K ∧ K ≤ 3) (H_sum : ∀ {g : mj_G} {l : Launch} {d : Nat} {T0 : tm_H} {M0 : mj_M} {n0 x9 : Nat} {o0 : Nat} (h_o0 : T0 o0 = some (0, 13, 0)) (yR : rI M0 o0) (yT : rT M0 o0) (yS : rv M0 o0 19 = 0 → ra M0 o0 5 44 ≤ rv M0 o0 16) (yL : rv M0 o0 19 ≠ 0 ∨ (K1 ≤ rv M0 o0 22 ∧ rv M0 o0 22 ≤ K1)) {pb : Nat → Int} {pn : Nat} {pa : Int} {ps : p_S} (yO : pO M0 o0 pb pn pa ps) (I0 : tm_I tm_FT (tm_in w_TrustDeskModel_sum_q1_x) x9 T0 M0 n0 T0 M0 n0), mj_Met g l kY_TrustDeskModel_sum (d + E + 8) [.ref o0] M0 n0 0 0 (tm_Q tm_FT (tm_in w_TrustDeskModel_sum_q1_x) x9 T0 M0 n0 (fun r _ M => r = none ∧ rI M o0 ∧ (rE M0 M o0 1 0) ∧ (rv M o0 19 = 0 → rv M o0 22 = rv M0 o0 22) ∧ (pO M o0 pb pn pa (p_sum pb pn pa (p_op pb pn pa r7) ps))))) (H_cond : ∀ {g : mj_G} {l : Launch} {d : Nat} {T0 : tm_H} {M0 : mj_M} {n0 x9 : Nat} {o0 : Nat} (h_o0 : T0 o0 = some (0, 13, 0)) (yR : rI M0 o0) (yT : rT M0 o0) (yS : rv M0 o0 19 = 0 → ra M0 o0 5 44 ≤ rv M0 o0 16) (yL : rv M0 o0 19 ≠ 0 ∨ (K1 ≤ rv M0 o0 22 ∧ rv M0 o0 22 ≤ K1)) {pb : Nat → Int} {pn : Nat} {pa : Int} {ps : p_S} (yO : pO M0 o0 pb pn pa ps) (I0 : tm_I tm_FT (tm_in w_TrustDeskModel_cond_q1_x) x9 T0 M0 n0 T0 M0 n0), mj_Met g l kY_TrustDeskModel_cond (d + E + 12) [.ref o0] M0 n0 0 0 (tm_Q tm_FT (tm_in w_TrustDeskModel_cond_q1_x) x9 T0 M0 n0 (fun r _ M => r = none ∧ rI M o0 ∧ (rE M0 M o0 1 0) ∧ (rv M o0 19 = 0 → rv M o0 22 = rv M0 o0 22) ∧ (pO M o0 pb pn pa (p_con pb pn pa r7 (p_oc pb pn pa r7) ps))))) {g : mj_G} {l : Launch} {d : Nat} {T0 : tm_H} {M0 : mj_M} {n0 x9 : Nat} {o0 : Nat} (h_o0 : T0 o0 = some (0, 13, 0)) (yR : rI M0 o0) (yT : rT M0 o0) (yS : rv M0 o0 19 = 0 → ra M0 o0 5 44 ≤ rv M0 o0 16) (yL : rv M0 o0 19 ≠ 0 ∨ (K ≤ rv M0 o0 22 ∧ rv M0 o0 22 ≤ K)) {pb : Nat → Int} {pn : Nat} {pa : Int} {ps : p_S} (yO : pO M0 o0 pb pn pa ps) (I0 : tm_I tm_FT (tm_in w_TrustDeskModel_cond_q1_x) x9 T0 M0 n0 T0 M0 n0) : mj_Met g l kY_TrustDeskModel_cond (d + E + 15) [.ref o0] M0 n0 0 0 (tm_Q tm_FT (tm_in w_TrustDeskModel_cond_q1_x) x9 T0 M0 n0 (fun r _ M => r = none ∧ rI M o0 ∧ (rE M0 M o0 1 0) ∧ (rv M o0 19 = 0 → rv M o0 22 = rv M0 o0 22) ∧ (pO M o0 pb pn pa (p_con pb pn pa (r7 + 1) (p_oc pb pn pa (r7 + 1)) ps)))) := by
  refine mj_enter (by decide) (Nat.le_of_ble_eq_true rfl) ?_
  have yE0 := rE.rf yT
  have := yO.w
  refine mv_aload_n d_TrustDeskModel_cond_0 rfl rfl ?_
  obtain ⟨_, b7, -⟩ := I0.1 _ _ h_o0
  refine mv_callV (kc' := 0) (ks' := 0) (As := []) (st9 := [.ref o0]) d_TrustDeskModel_cond_1 lV_TrustDeskModel_312 b7 rfl (tg_TrustDeskModel_both hK9 H_sum H_cond (d := d) (x9 := x9) (o0 := o0) h_o0 yR yE0.1 (by have := yR.1 15 _ _ rfl; have := yR.1 16 _ _ rfl; have := yR.1 19 _ _ rfl; have := yE0.f yS; omega) (by have := yR.1 15 _ _ rfl; have := yR.1 16 _ _ rfl; have := yR.1 19 _ _ rfl; have := yE0.f yS; omega) yO I0.start) rfl (Nat.le_of_ble_eq_true rfl) (Nat.le_of_ble_eq_true rfl) (Nat.le_of_ble_eq_true rfl) (hst := rfl) (fun b1r M2 n3 b1 => ?_)
  obtain ⟨T4, J5, rfl, R8, f9, f10, f11⟩ := b1
  have I6 := I0.call J5 (tm_sub (by decide)) (Or.inl rfl)
  have t12 := J5.up h_o0
  have E13 : rE M0 M2 o0 1 0 := yE0.trans f9 (by decide) (yR.2 5 _ _ rfl 44).1 (by decide) (by decide)
  have := f9.w
  obtain ⟨s14, e15⟩ : ∃ s9 : p_S, p_bot pb pn pa (r7 + 1) (p_oc pb pn pa (r7 + 1)) ps = s9 := ⟨_, rfl⟩
  rw [e15] at f11
  have := f11.w
  have L4_16 : ∀ (k : Nat) (T_16 : tm_H) (M_16 : mj_M) (n_16 : Nat), tm_I tm_FT (tm_in w_TrustDeskModel_cond_q1_x) x9 T0 M0 n0 T_16 M_16 n_16 → T_16 o0 = some (0, 13, 0) → (rv M_16 o0 19 = 0 → rv M_16 o0 22 = rv M0 o0 22) → (rI M_16 o0) → (rE M0 M_16 o0 1 0) → (∃ s1 : p_S, pO M_16 o0 pb pn pa s1 ∧ p_lp pn (p_co1 pb pn pa (r7 + 1) (p_oc pb pn pa (r7 + 1))) s1 = p_con pb pn pa (r7 + 1) (p_oc pb pn pa (r7 + 1)) ps) → 5 * (401 - rv M_16 o0 16) - rv M_16 o0 19 < (k : Int) → mj_V g l kY_TrustDeskModel_cond (d + E + 15) 4 [(0, .ref o0)] [] M_16 n_16 0 0 (tm_Q tm_FT (tm_in w_TrustDeskModel_cond_q1_x) x9 T0 M0 n0 (fun r _ M => r = none ∧ rI M o0 ∧ (rE M0 M o0 1 0) ∧ (rv M o0 19 = 0 → rv M o0 22 = rv M0 o0 22) ∧ (pO M o0 pb pn pa (p_con pb pn pa (r7 + 1) (p_oc pb pn pa (r7 + 1)) ps)))) := by
    intro k16
    induction k16 with
    | zero =>
      intro T_16 M_16 n_16 I_16 h_q0_16 iv0_16 kKR_16 kKE_16 kKT9_16 hk16
      have := kKR_16.1 15 _ _ rfl
      have := kKR_16.1 16 _ _ rfl
      have := kKR_16.1 19 _ _ rfl
      exfalso; omega
    | succ k16 ih16 =>
      intro T_16 M_16 n_16 I_16 h_q0_16 iv0_16 kKR_16 kKE_16 kKT9_16 hk16
      have := kKE_16.f yS
      obtain ⟨s17, Z918, e19⟩ := kKT9_16
      have := Z918.w
      refine mv_aload_n d_TrustDeskModel_cond_4 rfl rfl ?_
      obtain ⟨_, b20, -⟩ := I_16.1 _ _ h_q0_16
      refine mv_callV (kc1 := 0) (ks1 := 0) (kc' := 0) (ks' := 0) (As := []) (st9 := [.ref o0]) d_TrustDeskModel_cond_5 lV_TrustDeskModel_230 b20 rfl (mj_enter (by decide) (Nat.le_of_ble_eq_true rfl) ?_) rfl (Nat.le_of_ble_eq_true rfl) (Nat.le_of_ble_eq_true rfl) (Nat.le_of_ble_eq_true rfl) (hst := rfl) (fun _ _ _ h => h)
      refine mv_aload_n d_TrustDeskModel_isWell_0 rfl rfl ?_
      obtain ⟨v22, q21⟩ := tm_atI I_16 h_q0_16 (k := 19) rfl
      refine tr_getK q21 d_TrustDeskModel_isWell_1 f_TrustDeskModel_224_13 ?_
      have := kKR_16.f (k := 19) q21 rfl
      have := tm_rv q21
      have := mz_hi v22
      refine mv_if_neZ (tgt := 11) (a := v22.toInt) d_TrustDeskModel_isWell_4 (by decide) rfl (fun b23 => ?_) (fun b23 => ?_)
      · refine mv_iconst (v := 0) d_TrustDeskModel_isWell_11 (by decide) ?_
        refine mv_iret d_TrustDeskModel_isWell_12 rfl (by decide) ?_
        refine mv_if_eq_t (tgt := 38) d_TrustDeskModel_cond_8 (by decide) (by decide) ?_
        exact mv_vret d_TrustDeskModel_cond_38 rfl ⟨_, I_16, rfl, kKR_16, kKE_16, (by have := kKR_16.1 15 _ _ rfl; have := kKR_16.1 16 _ _ rfl; have := kKR_16.1 19 _ _ rfl; have := kKE_16.f yS; omega), (by first | (have hX := e19.symm.trans (p_lp_stop (show (p_co1 pb pn pa (r7 + 1) (p_oc pb pn pa (r7 + 1))) s17 = s17 from if_neg (fun h9 => by omega))); rw [show p_con pb pn pa (r7 + 1) (p_oc pb pn pa (r7 + 1)) ps = s17 from (by exact hX)]; exact Z918) | (exfalso; have := kKR_16.1 15 _ _ rfl; have := kKR_16.1 16 _ _ rfl; have := kKR_16.1 19 _ _ rfl; have := kKE_16.f yS; omega))⟩
      · refine mv_iconst (v := 1) d_TrustDeskModel_isWell_7 (by decide) ?_
        refine mv_goto (tgt := 12) d_TrustDeskModel_isWell_8 (by decide) ?_
        refine mv_iret d_TrustDeskModel_isWell_12 rfl (by decide) ?_
        refine mv_if_eq_f (tgt := 38) d_TrustDeskModel_cond_8 (by decide) (by decide) ?_
        refine mv_aload_n d_TrustDeskModel_cond_11 rfl rfl ?_
        refine mv_ldcSw (id := 41) (tx := "or") d_TrustDeskModel_cond_12 (List.mem_of_getElem? (i := 31) rfl) ?_
        obtain ⟨_, b30, -⟩ := I_16.1 _ _ h_q0_16
        refine mv_callV (kc' := 0) (ks' := 0) (As := [.ref 41]) (st9 := [.ref 41, .ref o0]) d_TrustDeskModel_cond_15 lV_TrustDeskModel_244 b30 rfl (tc_TrustDeskModel_isWord_s1_41_x (d := (d + E + 10)) (x9 := x9) (o0 := o0) h_q0_16 kKR_16 I_16.start) rfl (Nat.le_of_ble_eq_true rfl) (Nat.le_of_ble_eq_true rfl) (Nat.le_of_ble_eq_true rfl) (hst := rfl) (fun b24r M25 n26 b24 => ?_)
        obtain ⟨T27, J28, v31, rfl, b32, b33, R34, f35, f36, f37⟩ := b24
        have I29 := I_16.call J28 (tm_sub (by decide)) (Or.inl rfl)
        have t38 := J28.up h_q0_16
        replace f36 := Im.i f36
        replace f37 := Im.i f37
        have z39 := (rv_c I_16 J28 (I_16.up h_o0) (k := 16) rfl)
        have z40 := (rv_c I_16 J28 (I_16.up h_o0) (k := 17) rfl)
        have z41 := (rv_c I_16 J28 (I_16.up h_o0) (k := 19) rfl)
        have z42 := (rv_c I_16 J28 (I_16.up h_o0) (k := 22) rfl)
        have E43 : rE M0 M25 o0 1 0 := kKE_16.same (rE_hv I_16 J28 (I_16.up h_o0) 15 19 (by decide)) (rE_ha I_16 J28 (I_16.up h_o0) (by decide))
        have Z944 : pO M25 o0 pb pn pa s17 := Z918.same (rE_hv I_16 J28 (I_16.up h_o0) 14 20 (by decide)) (rv_c I_16 J28 (I_16.up h_o0) (k := 23) rfl) (ra_call I_16 J28 (I_16.up h_o0) (k := 13) rfl rfl rfl)
        have d45 := Im.i (pO.w_32 Z918 (by have := kKR_16.1 15 _ _ rfl; have := kKR_16.1 16 _ _ rfl; have := kKR_16.1 19 _ _ rfl; have := kKE_16.f yS; omega) (Im.o f36) (Im.o f37) (by have := kKR_16.1 15 _ _ rfl; have := kKR_16.1 16 _ _ rfl; have := kKR_16.1 19 _ _ rfl; have := kKE_16.f yS; omega))
        have q46 := J28.keep h_q0_16 (by decide) q21
        have := mz_hi v31
        refine mv_if_eqZ (tgt := 38) (a := v31.toInt) d_TrustDeskModel_cond_18 (by decide) rfl (fun b47 => ?_) (fun b47 => ?_)
        · exact mv_vret d_TrustDeskModel_cond_38 rfl ⟨_, I29, rfl, R34, E43, (by have := R34.1 15 _ _ rfl; have := R34.1 16 _ _ rfl; have := R34.1 19 _ _ rfl; have := E43.f yS; omega), (by first | (have := pW0 (Im.o d45) (by omega); have := Z944.wk; have hX := e19.symm.trans (p_lp_stop (show (p_co1 pb pn pa (r7 + 1) (p_oc pb pn pa (r7 + 1))) s17 = s17 from if_neg (fun h9 => by omega))); rw [show p_con pb pn pa (r7 + 1) (p_oc pb pn pa (r7 + 1)) ps = s17 from (by exact hX)]; exact Z944) | (exfalso; have := R34.1 15 _ _ rfl; have := R34.1 16 _ _ rfl; have := R34.1 19 _ _ rfl; have := E43.f yS; omega))⟩
        · refine mv_aload_n d_TrustDeskModel_cond_21 rfl rfl ?_
          obtain ⟨_, b54, -⟩ := I29.1 _ _ t38
          refine mv_callV (kc' := 0) (ks' := 0) (As := []) (st9 := [.ref o0]) d_TrustDeskModel_cond_22 lV_TrustDeskModel_237 b54 rfl (tc_TrustDeskModel_next_x (d := (d + E + 13)) (x9 := x9) (o0 := o0) t38 R34 Z944.p I29.start) rfl (Nat.le_of_ble_eq_true rfl) (Nat.le_of_ble_eq_true rfl) (Nat.le_of_ble_eq_true rfl) (hst := rfl) (fun b48r M49 n50 b48 => ?_)
          obtain ⟨T51, J52, rfl, R55, f56, f57, f58⟩ := b48
          have I53 := I29.call J52 (tm_sub (by decide)) (Or.inl rfl)
          have t59 := J52.up t38
          have z60 := (rv_c I29 J52 (I29.up h_o0) (k := 19) rfl).trans z41
          have z61 := (rv_c I29 J52 (I29.up h_o0) (k := 22) rfl).trans z42
          have h63 : rv M25 o0 16 + 1 ≤ rv M25 o0 15 := (by have := R34.1 15 _ _ rfl; have := R34.1 16 _ _ rfl; have := R34.1 19 _ _ rfl; have := E43.f yS; omega)
          have E62 : rE M0 M49 o0 1 1 := E43.next f56 f57 (rv_c I29 J52 (I29.up h_o0) (k := 19) rfl) (rE_ha I29 J52 (I29.up h_o0) (by decide)) (e := 1) h63 (by decide)
          obtain ⟨s64, e65⟩ : ∃ s9 : p_S, p_nx s17 = s9 := ⟨_, rfl⟩
          rw [e65] at f58
          have := f58.w
          clear z41 z42
          have q66 := J52.keep t38 (by decide) q46
          refine mv_aload_n d_TrustDeskModel_cond_25 rfl rfl ?_
          obtain ⟨_, b73, -⟩ := I53.1 _ _ t59
          refine mv_callV (kc' := 0) (ks' := 0) (As := []) (st9 := [.ref o0]) d_TrustDeskModel_cond_26 lV_TrustDeskModel_312 b73 rfl (tg_TrustDeskModel_both hK9 H_sum H_cond (d := d) (x9 := x9) (o0 := o0) t59 R55 E62.1 (by have := R55.1 15 _ _ rfl; have := R55.1 16 _ _ rfl; have := R55.1 19 _ _ rfl; have := E62.f yS; omega) (by have := R55.1 15 _ _ rfl; have := R55.1 16 _ _ rfl; have := R55.1 19 _ _ rfl; have := E62.f yS; omega) f58 I53.start) rfl (Nat.le_of_ble_eq_true rfl) (Nat.le_of_ble_eq_true rfl) (Nat.le_of_ble_eq_true rfl) (hst := rfl) (fun b67r M68 n69 b67 => ?_)
          obtain ⟨T70, J71, rfl, R74, f75, f76, f77⟩ := b67
          have I72 := I53.call J71 (tm_sub (by decide)) (Or.inl rfl)
          have t78 := J71.up t59
          have E79 : rE M0 M68 o0 2 1 := E62.trans f75 (by decide) (yR.2 5 _ _ rfl 44).1 (by decide) (by decide)
          have := f75.w
          obtain ⟨s80, e81⟩ : ∃ s9 : p_S, p_bot pb pn pa (r7 + 1) (p_oc pb pn pa (r7 + 1)) s64 = s9 := ⟨_, rfl⟩
          rw [e81] at f77
          have := f77.w
          refine mv_aload_n d_TrustDeskModel_cond_29 rfl rfl ?_
          refine mv_bipush (v := (-8)) d_TrustDeskModel_cond_30 (by decide) ?_
          obtain ⟨_, b88, -⟩ := I72.1 _ _ t78
          have : ((-8) : Int32).toInt = (-8) := by decide
          refine mv_callV (kc' := 0) (ks' := 0) (As := [.int (-8)]) (st9 := [.int (-8), .ref o0]) d_TrustDeskModel_cond_32 lV_TrustDeskModel_279 b88 rfl (tc_TrustDeskModel_emits_x (d := (d + E + 13)) (x9 := x9) (o0 := o0) (x1 := (-8)) t78 R74 (by have := R74.1 15 _ _ rfl; have := R74.1 16 _ _ rfl; have := R74.1 19 _ _ rfl; have := E79.f yS; omega) (by decide) I72.start) rfl (Nat.le_of_ble_eq_true rfl) (Nat.le_of_ble_eq_true rfl) (Nat.le_of_ble_eq_true rfl) (hst := rfl) (fun b82r M83 n84 b82 => ?_)
          obtain ⟨T85, J86, rfl, R89, f90⟩ := b82
          have I87 := I72.call J86 (tm_sub (by decide)) (Or.inl rfl)
          have t91 := J86.up t78
          have z92 := (rv_c I72 J86 (I72.up h_o0) (k := 16) rfl)
          have z93 := (rv_c I72 J86 (I72.up h_o0) (k := 17) rfl)
          have z94 := (rv_c I72 J86 (I72.up h_o0) (k := 19) rfl)
          have z95 := (rv_c I72 J86 (I72.up h_o0) (k := 22) rfl)
          have E96 : rE M0 M83 o0 1 0 := E79.emit f90 (rE_hv I72 J86 (I72.up h_o0) 15 19 (by decide)) (yR.2 5 _ _ rfl 44).1 (by decide) (Or.inr (Or.inr ⟨by decide, by decide, by decide, by decide⟩)) (by decide)
          have Z997 : pO M83 o0 pb pn pa s80 := f77.same (rE_hv I72 J86 (I72.up h_o0) 14 20 (by decide)) (rv_c I72 J86 (I72.up h_o0) (k := 23) rfl) (ra_call I72 J86 (I72.up h_o0) (k := 13) rfl rfl rfl)
          refine mv_goto (tgt := 4) d_TrustDeskModel_cond_35 (by decide) ?_
          have T98 : ∃ s1 : p_S, pO M83 o0 pb pn pa s1 ∧ p_lp pn (p_co1 pb pn pa (r7 + 1) (p_oc pb pn pa (r7 + 1))) s1 = p_con pb pn pa (r7 + 1) (p_oc pb pn pa (r7 + 1)) ps := ⟨s80, Z997, (by have st : (p_co1 pb pn pa (r7 + 1) (p_oc pb pn pa (r7 + 1))) s17 = s80 := (by have := pW1 (Im.o d45) (by omega); have := Z944.wk; rw [show (p_co1 pb pn pa (r7 + 1) (p_oc pb pn pa (r7 + 1))) s17 = p_bot pb pn pa (r7 + 1) (p_oc pb pn pa (r7 + 1)) (p_nx s17) from if_pos ⟨by omega, by omega⟩]; simp only [e65, e81]); rw [← st, p_P.go (p_co1_P (p_oc_M _)) s17]; exact e19)⟩
          exact (ih16 T85 M83 n84 I87 t91 (by have := R89.1 15 _ _ rfl; have := R89.1 16 _ _ rfl; have := R89.1 19 _ _ rfl; have := E96.f yS; first | omega | decide | exact fun h9 => absurd (by decide) h9) R89 E96 T98 (by have := R89.1 15 _ _ rfl; have := R89.1 16 _ _ rfl; have := R89.1 19 _ _ rfl; have := E96.f yS; omega))
  have T99 : ∃ s1 : p_S, pO M2 o0 pb pn pa s1 ∧ p_lp pn (p_co1 pb pn pa (r7 + 1) (p_oc pb pn pa (r7 + 1))) s1 = p_con pb pn pa (r7 + 1) (p_oc pb pn pa (r7 + 1)) ps := ⟨s14, f11, (by rw [← e15]; rfl)⟩
  exact mv_less (Nat.zero_le _) (Nat.zero_le _) (L4_16 4294967296 T4 M2 n3 I6 t12 (by have := R8.1 15 _ _ rfl; have := R8.1 16 _ _ rfl; have := R8.1 19 _ _ rfl; have := E13.f yS; first | omega | decide | exact fun h9 => absurd (by decide) h9) R8 E13 T99 (by have := R8.1 15 _ _ rfl; have := R8.1 16 _ _ rfl; have := R8.1 19 _ _ rfl; have := E13.f yS; omega))
def w_TrustDeskModel_sum_q2_x : List Nat := [1315, 1316, 1317, 1318, 1319, 1320, 1322, 20004, 20005]
theorem tc_TrustDeskModel_sum_q2_x {g : mj_G} {l : Launch} {d : Nat} {T0 : tm_H} {M0 : mj_M} {n0 x9 : Nat} {o0 : Nat} (h_o0 : T0 o0 = some (0, 13, 0)) (yR : rI M0 o0) (yT : rT M0 o0) (yS : rv M0 o0 19 = 0 → ra M0 o0 5 44 ≤ rv M0 o0 16) (yL : rv M0 o0 19 ≠ 0 ∨ (3 ≤ rv M0 o0 22 ∧ rv M0 o0 22 ≤ 3)) {pb : Nat → Int} {pn : Nat} {pa : Int} {ps : p_S} (yO : pO M0 o0 pb pn pa ps) (I0 : tm_I tm_FT (tm_in w_TrustDeskModel_sum_q2_x) x9 T0 M0 n0 T0 M0 n0) : mj_Met g l kY_TrustDeskModel_sum (d + 11) [.ref o0] M0 n0 0 0 (tm_Q tm_FT (tm_in w_TrustDeskModel_sum_q2_x) x9 T0 M0 n0 (fun r _ M => r = none ∧ rI M o0 ∧ (rE M0 M o0 1 0) ∧ (rv M o0 19 = 0 → rv M o0 22 = rv M0 o0 22) ∧ (pO M o0 pb pn pa (p_sum pb pn pa (p_op pb pn pa 1) ps)))) := tg_TrustDeskModel_sum (E := 0) (r7 := 0) (K := 3) (K1 := 4) (by decide) @tc_TrustDeskModel_sum_q1_x @tc_TrustDeskModel_cond_q1_x h_o0 yR yT yS yL yO I0
def w_TrustDeskModel_cond_q2_x : List Nat := [1315, 1316, 1317, 1318, 1319, 1320, 1322, 20004, 20005]
theorem tc_TrustDeskModel_cond_q2_x {g : mj_G} {l : Launch} {d : Nat} {T0 : tm_H} {M0 : mj_M} {n0 x9 : Nat} {o0 : Nat} (h_o0 : T0 o0 = some (0, 13, 0)) (yR : rI M0 o0) (yT : rT M0 o0) (yS : rv M0 o0 19 = 0 → ra M0 o0 5 44 ≤ rv M0 o0 16) (yL : rv M0 o0 19 ≠ 0 ∨ (3 ≤ rv M0 o0 22 ∧ rv M0 o0 22 ≤ 3)) {pb : Nat → Int} {pn : Nat} {pa : Int} {ps : p_S} (yO : pO M0 o0 pb pn pa ps) (I0 : tm_I tm_FT (tm_in w_TrustDeskModel_cond_q2_x) x9 T0 M0 n0 T0 M0 n0) : mj_Met g l kY_TrustDeskModel_cond (d + 15) [.ref o0] M0 n0 0 0 (tm_Q tm_FT (tm_in w_TrustDeskModel_cond_q2_x) x9 T0 M0 n0 (fun r _ M => r = none ∧ rI M o0 ∧ (rE M0 M o0 1 0) ∧ (rv M o0 19 = 0 → rv M o0 22 = rv M0 o0 22) ∧ (pO M o0 pb pn pa (p_con pb pn pa 1 (p_oc pb pn pa 1) ps)))) := tg_TrustDeskModel_cond (E := 0) (r7 := 0) (K := 3) (K1 := 4) (by decide) @tc_TrustDeskModel_sum_q1_x @tc_TrustDeskModel_cond_q1_x h_o0 yR yT yS yL yO I0
def w_TrustDeskModel_sum_q3_x : List Nat := [1315, 1316, 1317, 1318, 1319, 1320, 1322, 20004, 20005]
theorem tc_TrustDeskModel_sum_q3_x {g : mj_G} {l : Launch} {d : Nat} {T0 : tm_H} {M0 : mj_M} {n0 x9 : Nat} {o0 : Nat} (h_o0 : T0 o0 = some (0, 13, 0)) (yR : rI M0 o0) (yT : rT M0 o0) (yS : rv M0 o0 19 = 0 → ra M0 o0 5 44 ≤ rv M0 o0 16) (yL : rv M0 o0 19 ≠ 0 ∨ (2 ≤ rv M0 o0 22 ∧ rv M0 o0 22 ≤ 2)) {pb : Nat → Int} {pn : Nat} {pa : Int} {ps : p_S} (yO : pO M0 o0 pb pn pa ps) (I0 : tm_I tm_FT (tm_in w_TrustDeskModel_sum_q3_x) x9 T0 M0 n0 T0 M0 n0) : mj_Met g l kY_TrustDeskModel_sum (d + 14) [.ref o0] M0 n0 0 0 (tm_Q tm_FT (tm_in w_TrustDeskModel_sum_q3_x) x9 T0 M0 n0 (fun r _ M => r = none ∧ rI M o0 ∧ (rE M0 M o0 1 0) ∧ (rv M o0 19 = 0 → rv M o0 22 = rv M0 o0 22) ∧ (pO M o0 pb pn pa (p_sum pb pn pa (p_op pb pn pa 2) ps)))) := tg_TrustDeskModel_sum (E := 3) (r7 := 1) (K := 2) (K1 := 3) (by decide) @tc_TrustDeskModel_sum_q2_x @tc_TrustDeskModel_cond_q2_x h_o0 yR yT yS yL yO I0
def w_TrustDeskModel_cond_q3_x : List Nat := [1315, 1316, 1317, 1318, 1319, 1320, 1322, 20004, 20005]
theorem tc_TrustDeskModel_cond_q3_x {g : mj_G} {l : Launch} {d : Nat} {T0 : tm_H} {M0 : mj_M} {n0 x9 : Nat} {o0 : Nat} (h_o0 : T0 o0 = some (0, 13, 0)) (yR : rI M0 o0) (yT : rT M0 o0) (yS : rv M0 o0 19 = 0 → ra M0 o0 5 44 ≤ rv M0 o0 16) (yL : rv M0 o0 19 ≠ 0 ∨ (2 ≤ rv M0 o0 22 ∧ rv M0 o0 22 ≤ 2)) {pb : Nat → Int} {pn : Nat} {pa : Int} {ps : p_S} (yO : pO M0 o0 pb pn pa ps) (I0 : tm_I tm_FT (tm_in w_TrustDeskModel_cond_q3_x) x9 T0 M0 n0 T0 M0 n0) : mj_Met g l kY_TrustDeskModel_cond (d + 18) [.ref o0] M0 n0 0 0 (tm_Q tm_FT (tm_in w_TrustDeskModel_cond_q3_x) x9 T0 M0 n0 (fun r _ M => r = none ∧ rI M o0 ∧ (rE M0 M o0 1 0) ∧ (rv M o0 19 = 0 → rv M o0 22 = rv M0 o0 22) ∧ (pO M o0 pb pn pa (p_con pb pn pa 2 (p_oc pb pn pa 2) ps)))) := tg_TrustDeskModel_cond (E := 3) (r7 := 1) (K := 2) (K1 := 3) (by decide) @tc_TrustDeskModel_sum_q2_x @tc_TrustDeskModel_cond_q2_x h_o0 yR yT yS yL yO I0
def w_TrustDeskModel_sum_q4_x : List Nat := [1315, 1316, 1317, 1318, 1319, 1320, 1322, 20004, 20005]
theorem tc_TrustDeskModel_sum_q4_x {g : mj_G} {l : Launch} {d : Nat} {T0 : tm_H} {M0 : mj_M} {n0 x9 : Nat} {o0 : Nat} (h_o0 : T0 o0 = some (0, 13, 0)) (yR : rI M0 o0) (yT : rT M0 o0) (yS : rv M0 o0 19 = 0 → ra M0 o0 5 44 ≤ rv M0 o0 16) (yL : rv M0 o0 19 ≠ 0 ∨ (1 ≤ rv M0 o0 22 ∧ rv M0 o0 22 ≤ 1)) {pb : Nat → Int} {pn : Nat} {pa : Int} {ps : p_S} (yO : pO M0 o0 pb pn pa ps) (I0 : tm_I tm_FT (tm_in w_TrustDeskModel_sum_q4_x) x9 T0 M0 n0 T0 M0 n0) : mj_Met g l kY_TrustDeskModel_sum (d + 17) [.ref o0] M0 n0 0 0 (tm_Q tm_FT (tm_in w_TrustDeskModel_sum_q4_x) x9 T0 M0 n0 (fun r _ M => r = none ∧ rI M o0 ∧ (rE M0 M o0 1 0) ∧ (rv M o0 19 = 0 → rv M o0 22 = rv M0 o0 22) ∧ (pO M o0 pb pn pa (p_sum pb pn pa (p_op pb pn pa 3) ps)))) := tg_TrustDeskModel_sum (E := 6) (r7 := 2) (K := 1) (K1 := 2) (by decide) @tc_TrustDeskModel_sum_q3_x @tc_TrustDeskModel_cond_q3_x h_o0 yR yT yS yL yO I0
def w_TrustDeskModel_cond_q4_x : List Nat := [1315, 1316, 1317, 1318, 1319, 1320, 1322, 20004, 20005]
theorem tc_TrustDeskModel_cond_q4_x {g : mj_G} {l : Launch} {d : Nat} {T0 : tm_H} {M0 : mj_M} {n0 x9 : Nat} {o0 : Nat} (h_o0 : T0 o0 = some (0, 13, 0)) (yR : rI M0 o0) (yT : rT M0 o0) (yS : rv M0 o0 19 = 0 → ra M0 o0 5 44 ≤ rv M0 o0 16) (yL : rv M0 o0 19 ≠ 0 ∨ (1 ≤ rv M0 o0 22 ∧ rv M0 o0 22 ≤ 1)) {pb : Nat → Int} {pn : Nat} {pa : Int} {ps : p_S} (yO : pO M0 o0 pb pn pa ps) (I0 : tm_I tm_FT (tm_in w_TrustDeskModel_cond_q4_x) x9 T0 M0 n0 T0 M0 n0) : mj_Met g l kY_TrustDeskModel_cond (d + 21) [.ref o0] M0 n0 0 0 (tm_Q tm_FT (tm_in w_TrustDeskModel_cond_q4_x) x9 T0 M0 n0 (fun r _ M => r = none ∧ rI M o0 ∧ (rE M0 M o0 1 0) ∧ (rv M o0 19 = 0 → rv M o0 22 = rv M0 o0 22) ∧ (pO M o0 pb pn pa (p_con pb pn pa 3 (p_oc pb pn pa 3) ps)))) := tg_TrustDeskModel_cond (E := 6) (r7 := 2) (K := 1) (K1 := 2) (by decide) @tc_TrustDeskModel_sum_q3_x @tc_TrustDeskModel_cond_q3_x h_o0 yR yT yS yL yO I0
def w_TrustDeskModel_sum_q5_x : List Nat := [1315, 1316, 1317, 1318, 1319, 1320, 1322, 20004, 20005]
theorem tc_TrustDeskModel_sum_q5_x {g : mj_G} {l : Launch} {d : Nat} {T0 : tm_H} {M0 : mj_M} {n0 x9 : Nat} {o0 : Nat} (h_o0 : T0 o0 = some (0, 13, 0)) (yR : rI M0 o0) (yT : rT M0 o0) (yS : rv M0 o0 19 = 0 → ra M0 o0 5 44 ≤ rv M0 o0 16) (yL : rv M0 o0 19 ≠ 0 ∨ (0 ≤ rv M0 o0 22 ∧ rv M0 o0 22 ≤ 0)) {pb : Nat → Int} {pn : Nat} {pa : Int} {ps : p_S} (yO : pO M0 o0 pb pn pa ps) (I0 : tm_I tm_FT (tm_in w_TrustDeskModel_sum_q5_x) x9 T0 M0 n0 T0 M0 n0) : mj_Met g l kY_TrustDeskModel_sum (d + 20) [.ref o0] M0 n0 0 0 (tm_Q tm_FT (tm_in w_TrustDeskModel_sum_q5_x) x9 T0 M0 n0 (fun r _ M => r = none ∧ rI M o0 ∧ (rE M0 M o0 1 0) ∧ (rv M o0 19 = 0 → rv M o0 22 = rv M0 o0 22) ∧ (pO M o0 pb pn pa (p_sum pb pn pa (p_op pb pn pa 4) ps)))) := tg_TrustDeskModel_sum (E := 9) (r7 := 3) (K := 0) (K1 := 1) (by decide) @tc_TrustDeskModel_sum_q4_x @tc_TrustDeskModel_cond_q4_x h_o0 yR yT yS yL yO I0
def w_TrustDeskModel_cond_q5_x : List Nat := [1315, 1316, 1317, 1318, 1319, 1320, 1322, 20004, 20005]
theorem tc_TrustDeskModel_cond_q5_x {g : mj_G} {l : Launch} {d : Nat} {T0 : tm_H} {M0 : mj_M} {n0 x9 : Nat} {o0 : Nat} (h_o0 : T0 o0 = some (0, 13, 0)) (yR : rI M0 o0) (yT : rT M0 o0) (yS : rv M0 o0 19 = 0 → ra M0 o0 5 44 ≤ rv M0 o0 16) (yL : rv M0 o0 19 ≠ 0 ∨ (0 ≤ rv M0 o0 22 ∧ rv M0 o0 22 ≤ 0)) {pb : Nat → Int} {pn : Nat} {pa : Int} {ps : p_S} (yO : pO M0 o0 pb pn pa ps) (I0 : tm_I tm_FT (tm_in w_TrustDeskModel_cond_q5_x) x9 T0 M0 n0 T0 M0 n0) : mj_Met g l kY_TrustDeskModel_cond (d + 24) [.ref o0] M0 n0 0 0 (tm_Q tm_FT (tm_in w_TrustDeskModel_cond_q5_x) x9 T0 M0 n0 (fun r _ M => r = none ∧ rI M o0 ∧ (rE M0 M o0 1 0) ∧ (rv M o0 19 = 0 → rv M o0 22 = rv M0 o0 22) ∧ (pO M o0 pb pn pa (p_con pb pn pa 4 (p_oc pb pn pa 4) ps)))) := tg_TrustDeskModel_cond (E := 9) (r7 := 3) (K := 0) (K1 := 1) (by decide) @tc_TrustDeskModel_sum_q4_x @tc_TrustDeskModel_cond_q4_x h_o0 yR yT yS yL yO I0
