def w_TrustDeskModel_factor_q2_x : List Nat := [1315, 1316, 1317, 1318, 1319, 1320, 1322, 20004, 20005]
set_option maxHeartbeats 100000000 in theorem tc_TrustDeskModel_factor_q2_x {g : mj_G} {l : Launch} {d : Nat} {T0 : tm_H} {M0 : mj_M} {n0 x9 : Nat} {o0 : Nat} (h_o0 : T0 o0 = some (0, 13, 0)) (yR : rI M0 o0) (yT : rT M0 o0) (yS : rv M0 o0 19 = 0 → ra M0 o0 5 44 ≤ rv M0 o0 16) (yL : rv M0 o0 19 ≠ 0 ∨ (3 ≤ rv M0 o0 22 ∧ rv M0 o0 22 ≤ 3)) {pb : Nat → Int} {pn : Nat} {pa : Int} {ps : p_S} (yO : pO M0 o0 pb pn pa ps) (I0 : tm_I tm_FT (tm_in w_TrustDeskModel_factor_q2_x) x9 T0 M0 n0 T0 M0 n0) : mj_Met g l kY_TrustDeskModel_factor (d + 9) [.ref o0] M0 n0 0 0 (tm_Q tm_FT (tm_in w_TrustDeskModel_factor_q2_x) x9 T0 M0 n0 (fun r _ M => r = none ∧ rI M o0 ∧ (rE M0 M o0 1 0) ∧ (rv M o0 19 = 0 → rv M o0 22 = rv M0 o0 22) ∧ (pO M o0 pb pn pa (p_fac pb pn pa (p_op pb pn pa 1) ps)))) := by
  refine mj_enter (by decide) (Nat.le_of_ble_eq_true rfl) ?_
  have yE0 := rE.rf yT
  have := yO.w
  refine mv_aload_n d_TrustDeskModel_factor_0 rfl rfl ?_
  obtain ⟨_, b1, -⟩ := I0.1 _ _ h_o0
  refine mv_callV (kc1 := 0) (ks1 := 0) (kc' := 0) (ks' := 0) (As := []) (st9 := [.ref o0]) d_TrustDeskModel_factor_1 lV_TrustDeskModel_230 b1 rfl (mj_enter (by decide) (Nat.le_of_ble_eq_true rfl) ?_) rfl (Nat.le_of_ble_eq_true rfl) (Nat.le_of_ble_eq_true rfl) (Nat.le_of_ble_eq_true rfl) (hst := rfl) (fun _ _ _ h => h)
  refine mv_aload_n d_TrustDeskModel_isWell_0 rfl rfl ?_
  obtain ⟨v3, q2⟩ := tm_atI I0 h_o0 (k := 19) rfl
  refine tr_getK q2 d_TrustDeskModel_isWell_1 f_TrustDeskModel_224_13 ?_
  have := yR.f (k := 19) q2 rfl
  have := tm_rv q2
  have := mz_hi v3
  refine mv_if_neZ (tgt := 11) (a := v3.toInt) d_TrustDeskModel_isWell_4 (by decide) rfl (fun b4 => ?_) (fun b4 => ?_)
  · refine mv_iconst (v := 0) d_TrustDeskModel_isWell_11 (by decide) ?_
    refine mv_iret d_TrustDeskModel_isWell_12 rfl (by decide) ?_
    refine mv_if_ne_f (tgt := 8) d_TrustDeskModel_factor_4 (by decide) (by decide) ?_
    exact mv_vret d_TrustDeskModel_factor_7 rfl ⟨_, I0, rfl, yR, yE0.vac (by have := yR.1 15 _ _ rfl; have := yR.1 16 _ _ rfl; have := yR.1 19 _ _ rfl; have := yE0.f yS; omega) 1 0, (by have := yR.1 15 _ _ rfl; have := yR.1 16 _ _ rfl; have := yR.1 19 _ _ rfl; have := yE0.f yS; omega), (by first | (rw [show p_fac pb pn pa (p_op pb pn pa 1) ps = ps from (by have hop : (p_op pb pn pa 1) ps = p_sg pb pn 41 (p_sum pb pn pa (p_op pb pn pa 0) (p_nx ps)) := rfl; unfold p_fac; (try simp only [hop]); skip; ((repeat' (first | (with_reducible rfl) | split)) <;> (exfalso; omega)))]; exact yO) | (exfalso; have := yR.1 15 _ _ rfl; have := yR.1 16 _ _ rfl; have := yR.1 19 _ _ rfl; have := yE0.f yS; omega))⟩
  · refine mv_iconst (v := 1) d_TrustDeskModel_isWell_7 (by decide) ?_
    refine mv_goto (tgt := 12) d_TrustDeskModel_isWell_8 (by decide) ?_
    refine mv_iret d_TrustDeskModel_isWell_12 rfl (by decide) ?_
    refine mv_if_ne_t (tgt := 8) d_TrustDeskModel_factor_4 (by decide) (by decide) ?_
    refine mv_aload_n d_TrustDeskModel_factor_8 rfl rfl ?_
    obtain ⟨v6, q5⟩ := tm_atI I0 h_o0 (k := 17) rfl
    refine tr_getK q5 d_TrustDeskModel_factor_9 f_TrustDeskModel_198_13 ?_
    have := tm_rv q5
    refine mv_iconst (v := 2) d_TrustDeskModel_factor_12 (by decide) ?_
    have := mz_hi v6
    refine mv_icmp_neZ (tgt := 31) (a := v6.toInt) (b := 2) d_TrustDeskModel_factor_13 (by decide) rfl (by decide) (fun b7 => ?_) (fun b7 => ?_)
    · refine mv_aload_n d_TrustDeskModel_factor_31 rfl rfl ?_
      refine tr_getK (k := 17) q5 d_TrustDeskModel_factor_32 f_TrustDeskModel_198_13 ?_
      refine mv_iconst (v := 3) d_TrustDeskModel_factor_35 (by decide) ?_
      have := mz_hi v6
      refine mv_icmp_neZ (tgt := 77) (a := v6.toInt) (b := 3) d_TrustDeskModel_factor_36 (by decide) rfl (by decide) (fun b8 => ?_) (fun b8 => ?_)
      · refine mv_aload_n d_TrustDeskModel_factor_77 rfl rfl ?_
        refine mv_bipush (v := 40) d_TrustDeskModel_factor_78 (by decide) ?_
        obtain ⟨_, b9, -⟩ := I0.1 _ _ h_o0
        refine mv_callV (kc1 := 0) (ks1 := 0) (kc' := 0) (ks' := 0) (As := [.int 40]) (st9 := [.int 40, .ref o0]) d_TrustDeskModel_factor_80 lV_TrustDeskModel_234 b9 rfl (mj_enter (by decide) (Nat.le_of_ble_eq_true rfl) ?_) rfl (Nat.le_of_ble_eq_true rfl) (Nat.le_of_ble_eq_true rfl) (Nat.le_of_ble_eq_true rfl) (hst := rfl) (fun _ _ _ h => h)
        refine mv_aload_n d_TrustDeskModel_isSign_0 rfl rfl ?_
        refine tr_getK (k := 17) q5 d_TrustDeskModel_isSign_1 f_TrustDeskModel_198_13 ?_
        refine mv_iconst (v := 4) d_TrustDeskModel_isSign_4 (by decide) ?_
        have := mz_hi v6
        refine mv_icmp_neZ (tgt := 20) (a := v6.toInt) (b := 4) d_TrustDeskModel_isSign_5 (by decide) rfl (by decide) (fun b10 => ?_) (fun b10 => ?_)
        · refine mv_iconst (v := 0) d_TrustDeskModel_isSign_20 (by decide) ?_
          refine mv_iret d_TrustDeskModel_isSign_21 rfl (by decide) ?_
          refine mv_if_eq_t (tgt := 113) d_TrustDeskModel_factor_83 (by decide) (by decide) ?_
          refine mv_aload_n d_TrustDeskModel_factor_113 rfl rfl ?_
          refine mv_iconst (v := 1) d_TrustDeskModel_factor_114 (by decide) ?_
          obtain ⟨_, b17, -⟩ := I0.1 _ _ h_o0
          have : (1 : Int32).toInt = 1 := by decide
          refine mv_callV (kc' := 0) (ks' := 0) (As := [.int 1]) (st9 := [.int 1, .ref o0]) d_TrustDeskModel_factor_115 lV_TrustDeskModel_240 b17 rfl (tc_TrustDeskModel_fails_x (d := (d + 8)) (x9 := x9) (o0 := o0) (x1 := 1) h_o0 yR (by decide) yO I0.start) rfl (Nat.le_of_ble_eq_true rfl) (Nat.le_of_ble_eq_true rfl) (Nat.le_of_ble_eq_true rfl) (hst := rfl) (fun b11r M12 n13 b11 => ?_)
          obtain ⟨T14, J15, rfl, R18, f19, f20⟩ := b11
          have I16 := I0.call J15 (tm_sub (by decide)) (Or.inl rfl)
          have t21 := J15.up h_o0
          have z22 := (rv_c I0 J15 (I0.up h_o0) (k := 16) rfl)
          have z23 := (rv_c I0 J15 (I0.up h_o0) (k := 17) rfl)
          have z24 := (rv_c I0 J15 (I0.up h_o0) (k := 22) rfl)
          have E25 : rE M0 M12 o0 0 0 := yE0.fails (rE_hv I0 J15 (I0.up h_o0) 15 18 (by decide)) (rE_ha I0 J15 (I0.up h_o0) (by decide)) f19 0 0
          rw [show (1 : Int32).toInt = 1 from by decide] at f20
          obtain ⟨s26, e27⟩ : ∃ s9 : p_S, p_fl pb pn 1 ps = s9 := ⟨_, rfl⟩
          rw [e27] at f20
          have := f20.w
          have q28 := J15.keep h_o0 (by decide) q5
          exact mv_vret d_TrustDeskModel_factor_118 rfl ⟨_, I16, rfl, R18, E25.vac (by have := R18.1 15 _ _ rfl; have := R18.1 16 _ _ rfl; have := R18.1 19 _ _ rfl; have := E25.f yS; omega) 1 0, (by have := R18.1 15 _ _ rfl; have := R18.1 16 _ _ rfl; have := R18.1 19 _ _ rfl; have := E25.f yS; omega), (by first | (have := yO.n4 (by omega) (by omega); have := yO.n3 (by omega) (by omega); have := yO.n2 (by omega) (by omega); rw [show p_fac pb pn pa (p_op pb pn pa 1) ps = s26 from (by have hop : (p_op pb pn pa 1) ps = p_sg pb pn 41 (p_sum pb pn pa (p_op pb pn pa 0) (p_nx ps)) := rfl; unfold p_fac; (try simp only [hop]); (try simp only [e27]); ((repeat' (first | (with_reducible rfl) | split)) <;> (exfalso; omega)))]; exact f20) | (exfalso; have := R18.1 15 _ _ rfl; have := R18.1 16 _ _ rfl; have := R18.1 19 _ _ rfl; have := E25.f yS; omega))⟩
        · refine mv_aload_n d_TrustDeskModel_isSign_8 rfl rfl ?_
          obtain ⟨v30, q29⟩ := tm_atI I0 h_o0 (k := 18) rfl
          refine tr_getK q29 d_TrustDeskModel_isSign_9 f_TrustDeskModel_201_13 ?_
          have := yR.f (k := 18) q29 rfl
          have := tm_rv q29
          refine mv_iload_n d_TrustDeskModel_isSign_12 rfl rfl ?_
          have := mz_hi v30
          refine mv_icmp_neZ (tgt := 20) (a := v30.toInt) (b := 40) d_TrustDeskModel_isSign_13 (by decide) rfl (by decide) (fun b31 => ?_) (fun b31 => ?_)
          · refine mv_iconst (v := 0) d_TrustDeskModel_isSign_20 (by decide) ?_
            refine mv_iret d_TrustDeskModel_isSign_21 rfl (by decide) ?_
            refine mv_if_eq_t (tgt := 113) d_TrustDeskModel_factor_83 (by decide) (by decide) ?_
            refine mv_aload_n d_TrustDeskModel_factor_113 rfl rfl ?_
            refine mv_iconst (v := 1) d_TrustDeskModel_factor_114 (by decide) ?_
            obtain ⟨_, b38, -⟩ := I0.1 _ _ h_o0
            have : (1 : Int32).toInt = 1 := by decide
            refine mv_callV (kc' := 0) (ks' := 0) (As := [.int 1]) (st9 := [.int 1, .ref o0]) d_TrustDeskModel_factor_115 lV_TrustDeskModel_240 b38 rfl (tc_TrustDeskModel_fails_x (d := (d + 8)) (x9 := x9) (o0 := o0) (x1 := 1) h_o0 yR (by decide) yO I0.start) rfl (Nat.le_of_ble_eq_true rfl) (Nat.le_of_ble_eq_true rfl) (Nat.le_of_ble_eq_true rfl) (hst := rfl) (fun b32r M33 n34 b32 => ?_)
            obtain ⟨T35, J36, rfl, R39, f40, f41⟩ := b32
            have I37 := I0.call J36 (tm_sub (by decide)) (Or.inl rfl)
            have t42 := J36.up h_o0
            have z43 := (rv_c I0 J36 (I0.up h_o0) (k := 16) rfl)
            have z44 := (rv_c I0 J36 (I0.up h_o0) (k := 17) rfl)
            have z45 := (rv_c I0 J36 (I0.up h_o0) (k := 22) rfl)
            have E46 : rE M0 M33 o0 0 0 := yE0.fails (rE_hv I0 J36 (I0.up h_o0) 15 18 (by decide)) (rE_ha I0 J36 (I0.up h_o0) (by decide)) f40 0 0
            rw [show (1 : Int32).toInt = 1 from by decide] at f41
            obtain ⟨s47, e48⟩ : ∃ s9 : p_S, p_fl pb pn 1 ps = s9 := ⟨_, rfl⟩
            rw [e48] at f41
            have := f41.w
            have q49 := J36.keep h_o0 (by decide) q5
            have q50 := J36.keep h_o0 (by decide) q29
            exact mv_vret d_TrustDeskModel_factor_118 rfl ⟨_, I37, rfl, R39, E46.vac (by have := R39.1 15 _ _ rfl; have := R39.1 16 _ _ rfl; have := R39.1 19 _ _ rfl; have := E46.f yS; omega) 1 0, (by have := R39.1 15 _ _ rfl; have := R39.1 16 _ _ rfl; have := R39.1 19 _ _ rfl; have := E46.f yS; omega), (by first | (have := yO.s4 (by omega) (by omega); rw [show p_fac pb pn pa (p_op pb pn pa 1) ps = s47 from (by have hop : (p_op pb pn pa 1) ps = p_sg pb pn 41 (p_sum pb pn pa (p_op pb pn pa 0) (p_nx ps)) := rfl; unfold p_fac; (try simp only [hop]); (try simp only [e48]); ((repeat' (first | (with_reducible rfl) | split)) <;> (exfalso; omega)))]; exact f41) | (exfalso; have := R39.1 15 _ _ rfl; have := R39.1 16 _ _ rfl; have := R39.1 19 _ _ rfl; have := E46.f yS; omega))⟩
          · refine mv_iconst (v := 1) d_TrustDeskModel_isSign_16 (by decide) ?_
            refine mv_goto (tgt := 21) d_TrustDeskModel_isSign_17 (by decide) ?_
            refine mv_iret d_TrustDeskModel_isSign_21 rfl (by decide) ?_
            refine mv_if_eq_f (tgt := 113) d_TrustDeskModel_factor_83 (by decide) (by decide) ?_
            refine mv_aload_n d_TrustDeskModel_factor_86 rfl rfl ?_
            obtain ⟨_, b57, -⟩ := I0.1 _ _ h_o0
            refine mv_callV (kc' := 0) (ks' := 0) (As := []) (st9 := [.ref o0]) d_TrustDeskModel_factor_87 lV_TrustDeskModel_285 b57 rfl (tc_TrustDeskModel_opens_x (d := (d + 6)) (x9 := x9) (o0 := o0) h_o0 yR yE0.1 (by have := yR.1 15 _ _ rfl; have := yR.1 16 _ _ rfl; have := yR.1 19 _ _ rfl; have := yE0.f yS; omega) (by have := yR.1 15 _ _ rfl; have := yR.1 16 _ _ rfl; have := yR.1 19 _ _ rfl; have := yE0.f yS; omega) (by have := yR.1 15 _ _ rfl; have := yR.1 16 _ _ rfl; have := yR.1 19 _ _ rfl; have := yE0.f yS; omega) (by have := yR.1 15 _ _ rfl; have := yR.1 16 _ _ rfl; have := yR.1 19 _ _ rfl; have := yE0.f yS; omega) yO I0.start) rfl (Nat.le_of_ble_eq_true rfl) (Nat.le_of_ble_eq_true rfl) (Nat.le_of_ble_eq_true rfl) (hst := rfl) (fun b51r M52 n53 b51 => ?_)
            obtain ⟨T54, J55, rfl, R58, f59, f60, f61⟩ := b51
            have I56 := I0.call J55 (tm_sub (by decide)) (Or.inl rfl)
            have t62 := J55.up h_o0
            have E63 : rE M0 M52 o0 0 1 := yE0.trans f59 (by decide) (yR.2 5 _ _ rfl 44).1 (by decide) (by decide)
            have := f59.w
            rw [if_neg (by have := yR.1 15 _ _ rfl; have := yR.1 16 _ _ rfl; have := yR.1 19 _ _ rfl; have := yE0.f yS; omega)] at f61
            obtain ⟨s64, e65⟩ : ∃ s9 : p_S, p_nx ps = s9 := ⟨_, rfl⟩
            rw [e65] at f61
            have := f61.w
            refine mv_aload_n d_TrustDeskModel_factor_90 rfl rfl ?_
            obtain ⟨_, b72, -⟩ := I56.1 _ _ t62
            refine mv_callV (kc' := 0) (ks' := 0) (As := []) (st9 := [.ref o0]) d_TrustDeskModel_factor_91 lV_TrustDeskModel_288 b72 rfl (tc_TrustDeskModel_sum_q1_x (d := d) (x9 := x9) (o0 := o0) t62 R58 E63.1 (by have := R58.1 15 _ _ rfl; have := R58.1 16 _ _ rfl; have := R58.1 19 _ _ rfl; have := E63.f yS; omega) (by have := R58.1 15 _ _ rfl; have := R58.1 16 _ _ rfl; have := R58.1 19 _ _ rfl; have := E63.f yS; omega) f61 I56.start) rfl (Nat.le_of_ble_eq_true rfl) (Nat.le_of_ble_eq_true rfl) (Nat.le_of_ble_eq_true rfl) (hst := rfl) (fun b66r M67 n68 b66 => ?_)
            obtain ⟨T69, J70, rfl, R73, f74, f75, f76⟩ := b66
            have I71 := I56.call J70 (tm_sub (by decide)) (Or.inl rfl)
            have t77 := J70.up t62
            have E78 : rE M0 M67 o0 1 1 := E63.trans f74 (by decide) (yR.2 5 _ _ rfl 44).1 (by decide) (by decide)
            have := f74.w
            obtain ⟨s79, e80⟩ : ∃ s9 : p_S, p_sum pb pn pa (p_op pb pn pa 0) s64 = s9 := ⟨_, rfl⟩
            rw [e80] at f76
            have := f76.w
            refine mv_aload_n d_TrustDeskModel_factor_94 rfl rfl ?_
            refine mv_bipush (v := 41) d_TrustDeskModel_factor_95 (by decide) ?_
            obtain ⟨_, b87, -⟩ := I71.1 _ _ t77
            have : (41 : Int32).toInt = 41 := by decide
            refine mv_callV (kc' := 0) (ks' := 0) (As := [.int 41]) (st9 := [.int 41, .ref o0]) d_TrustDeskModel_factor_97 lV_TrustDeskModel_291 b87 rfl (tc_TrustDeskModel_wantSign_x (d := (d + 6)) (x9 := x9) (o0 := o0) (x1 := 41) t77 R73 E78.1 (by have := R73.1 15 _ _ rfl; have := R73.1 16 _ _ rfl; have := R73.1 19 _ _ rfl; have := E78.f yS; omega) (by decide) f76 I71.start) rfl (Nat.le_of_ble_eq_true rfl) (Nat.le_of_ble_eq_true rfl) (Nat.le_of_ble_eq_true rfl) (hst := rfl) (fun b81r M82 n83 b81 => ?_)
            obtain ⟨T84, J85, rfl, R88, f89, f90⟩ := b81
            have I86 := I71.call J85 (tm_sub (by decide)) (Or.inl rfl)
            have t91 := J85.up t77
            have z92 := (rv_c I71 J85 (I71.up h_o0) (k := 22) rfl)
            have E93 : rE M0 M82 o0 1 2 := E78.trans f89 (by decide) (yR.2 5 _ _ rfl 44).1 (by decide) (by decide)
            have := f89.w
            rw [show (41 : Int32).toInt = 41 from by decide] at f90
            obtain ⟨s94, e95⟩ : ∃ s9 : p_S, p_sg pb pn 41 s79 = s9 := ⟨_, rfl⟩
            rw [e95] at f90
            have := f90.w
            refine mv_aload_n d_TrustDeskModel_factor_100 rfl rfl ?_
            refine mv_dup d_TrustDeskModel_factor_101 rfl ?_
            obtain ⟨v97, q96⟩ := tm_atI I86 t91 (k := 22) rfl
            refine tr_getK q96 d_TrustDeskModel_factor_102 f_TrustDeskModel_276_13 ?_
            have := (tm_rv q96).symm.trans z92
            have := tm_rv q96
            refine mv_iconst (v := 1) d_TrustDeskModel_factor_105 (by decide) ?_
            refine mv_isub d_TrustDeskModel_factor_106 ?_
            have : rv M82 o0 19 = 0 → (v97 - 1 : Int32).toInt = v97.toInt - 1 := fun h9 => mz_sub2 rfl (by decide) (by omega) (by omega)
            refine tr_putR (k := 22) I86 R88 t91 rfl ⟨_, rfl⟩ (fun _ h => by cases h) rfl (fun lo hi h => by cases h) (Or.inl (by decide)) d_TrustDeskModel_factor_107 p_TrustDeskModel_276_13 rfl rfl (fun M98 I99 q100 K101 R102 A103 V104 => ?_)
            have z105 := (V104 16 (by decide))
            have z106 := (V104 17 (by decide))
            have z107 := (V104 19 (by decide))
            have z108 : rv M98 o0 22 = (v97 - 1).toInt := tm_rv q100
            have E109 : rE M0 M98 o0 1 2 := E93.same (fun k h1 h2 => V104 k (by omega)) (fun k h1 h2 => A103 k (by omega))
            have Z9110 : pO M98 o0 pb pn pa s94 := f90.same (fun k h1 h2 => V104 k (by omega)) (V104 23 (by decide)) (A103 13 (by decide))
            refine mv_goto (tgt := 118) d_TrustDeskModel_factor_110 (by decide) ?_
            exact mv_vret d_TrustDeskModel_factor_118 rfl ⟨_, I99, rfl, R102, E109.less (by decide), (by have := R102.1 15 _ _ rfl; have := R102.1 16 _ _ rfl; have := R102.1 19 _ _ rfl; have := E109.f yS; omega), (by first | (have := yO.s4 (by omega) (by omega); rw [show p_fac pb pn pa (p_op pb pn pa 1) ps = s94 from (by have hop : (p_op pb pn pa 1) ps = p_sg pb pn 41 (p_sum pb pn pa (p_op pb pn pa 0) (p_nx ps)) := rfl; unfold p_fac; (try simp only [hop]); (try simp only [e65, e80, e95]); ((repeat' (first | (with_reducible rfl) | split)) <;> (exfalso; omega)))]; exact Z9110) | (exfalso; have := R102.1 15 _ _ rfl; have := R102.1 16 _ _ rfl; have := R102.1 19 _ _ rfl; have := E109.f yS; omega))⟩
      · refine mv_aload_n d_TrustDeskModel_factor_39 rfl rfl ?_
        obtain ⟨_, b117, -⟩ := I0.1 _ _ h_o0
        refine mv_callV (kc' := 0) (ks' := 0) (As := []) (st9 := [.ref o0]) d_TrustDeskModel_factor_40 lV_TrustDeskModel_282 b117 rfl (tc_TrustDeskModel_name_x (d := (d + 3)) (x9 := x9) (o0 := o0) h_o0 yR (by have := yR.1 15 _ _ rfl; have := yR.1 16 _ _ rfl; have := yR.1 19 _ _ rfl; have := yE0.f yS; omega) yO I0.start) rfl (Nat.le_of_ble_eq_true rfl) (Nat.le_of_ble_eq_true rfl) (Nat.le_of_ble_eq_true rfl) (hst := rfl) (fun b111r M112 n113 b111 => ?_)
        obtain ⟨T114, J115, v118, rfl, R119, f120, f121⟩ := b111
        have I116 := I0.call J115 (tm_sub (by decide)) (Or.inl rfl)
        have t122 := J115.up h_o0
        have z123 := (rv_c I0 J115 (I0.up h_o0) (k := 16) rfl)
        have z124 := (rv_c I0 J115 (I0.up h_o0) (k := 17) rfl)
        have z125 := (rv_c I0 J115 (I0.up h_o0) (k := 19) rfl)
        have z126 := (rv_c I0 J115 (I0.up h_o0) (k := 22) rfl)
        have E127 : rE M0 M112 o0 0 0 := yE0.same (rE_hv I0 J115 (I0.up h_o0) 15 19 (by decide)) (rE_ha I0 J115 (I0.up h_o0) (by decide))
        have Z9128 : pO M112 o0 pb pn pa ps := yO.same (rE_hv I0 J115 (I0.up h_o0) 14 20 (by decide)) (rv_c I0 J115 (I0.up h_o0) (k := 23) rfl) (ra_call I0 J115 (I0.up h_o0) (k := 13) rfl rfl rfl)
        have q129 := J115.keep h_o0 (by decide) q2
        have q130 := J115.keep h_o0 (by decide) q5
        refine mv_istore_n (lv' := [(1, .int v118), (0, .ref o0)]) d_TrustDeskModel_factor_43 rfl (by decide) rfl ?_
        refine mv_iload_n d_TrustDeskModel_factor_44 rfl rfl ?_
        refine mv_iconst (v := (-1)) d_TrustDeskModel_factor_45 (by decide) ?_
        have := mz_hi v118
        refine mv_icmp_neZ (tgt := 54) (a := v118.toInt) (b := (-1)) d_TrustDeskModel_factor_46 (by decide) rfl (by decide) (fun b131 => ?_) (fun b131 => ?_)
        · refine mv_aload_n d_TrustDeskModel_factor_54 rfl rfl ?_
          refine mv_sipush (v := 10000) d_TrustDeskModel_factor_55 (by decide) ?_
          refine mv_iload_n d_TrustDeskModel_factor_58 rfl rfl ?_
          refine mv_iadd d_TrustDeskModel_factor_59 ?_
          obtain ⟨_, b138, -⟩ := I116.1 _ _ t122
          have b139 : (10000 + v118 : Int32).toInt = (10000 + v118.toInt) := mz_add2 (by decide) rfl (by have := R119.1 15 _ _ rfl; have := R119.1 16 _ _ rfl; have := R119.1 19 _ _ rfl; have := E127.f yS; omega) (by have := R119.1 15 _ _ rfl; have := R119.1 16 _ _ rfl; have := R119.1 19 _ _ rfl; have := E127.f yS; omega)
          refine mv_callV (kc' := 0) (ks' := 0) (As := [.int (10000 + v118)]) (st9 := [.int (10000 + v118), .ref o0]) d_TrustDeskModel_factor_60 lV_TrustDeskModel_279 b138 rfl (tc_TrustDeskModel_emits_x (d := (d + 7)) (x9 := x9) (o0 := o0) (x1 := (10000 + v118)) t122 R119 (by have := R119.1 15 _ _ rfl; have := R119.1 16 _ _ rfl; have := R119.1 19 _ _ rfl; have := E127.f yS; omega) (by have := R119.1 15 _ _ rfl; have := R119.1 16 _ _ rfl; have := R119.1 19 _ _ rfl; have := E127.f yS; omega) I116.start) rfl (Nat.le_of_ble_eq_true rfl) (Nat.le_of_ble_eq_true rfl) (Nat.le_of_ble_eq_true rfl) (hst := rfl) (fun b132r M133 n134 b132 => ?_)
          obtain ⟨T135, J136, rfl, R140, f141⟩ := b132
          have I137 := I116.call J136 (tm_sub (by decide)) (Or.inl rfl)
          have t142 := J136.up t122
          have z143 := (rv_c I116 J136 (I116.up h_o0) (k := 16) rfl).trans z123
          have z144 := (rv_c I116 J136 (I116.up h_o0) (k := 17) rfl).trans z124
          have z145 := (rv_c I116 J136 (I116.up h_o0) (k := 19) rfl).trans z125
          have z146 := (rv_c I116 J136 (I116.up h_o0) (k := 22) rfl).trans z126
          have E147 : rE M0 M133 o0 1 (-1) := E127.emit f141 (rE_hv I116 J136 (I116.up h_o0) 15 19 (by decide)) (yR.2 5 _ _ rfl 44).1 (by decide) (Or.inl ⟨by have := R119.1 15 _ _ rfl; have := R119.1 16 _ _ rfl; have := R119.1 19 _ _ rfl; have := E127.f yS; omega, by decide⟩) (by decide)
          have Z9148 : pO M133 o0 pb pn pa ps := Z9128.same (rE_hv I116 J136 (I116.up h_o0) 14 20 (by decide)) (rv_c I116 J136 (I116.up h_o0) (k := 23) rfl) (ra_call I116 J136 (I116.up h_o0) (k := 13) rfl rfl rfl)
          clear z123 z124 z125 z126
          have q149 := J136.keep t122 (by decide) q129
          have q150 := J136.keep t122 (by decide) q130
          refine mv_aload_n d_TrustDeskModel_factor_63 rfl rfl ?_
          obtain ⟨_, b151, -⟩ := I137.1 _ _ t142
          refine mv_callV (kc1 := 0) (ks1 := 0) (kc' := 0) (ks' := 0) (As := []) (st9 := [.ref o0]) d_TrustDeskModel_factor_64 lV_TrustDeskModel_230 b151 rfl (mj_enter (by decide) (Nat.le_of_ble_eq_true rfl) ?_) rfl (Nat.le_of_ble_eq_true rfl) (Nat.le_of_ble_eq_true rfl) (Nat.le_of_ble_eq_true rfl) (hst := rfl) (fun _ _ _ h => h)
          refine mv_aload_n d_TrustDeskModel_isWell_0 rfl rfl ?_
          refine tr_getK (k := 19) q149 d_TrustDeskModel_isWell_1 f_TrustDeskModel_224_13 ?_
          have := mz_hi v3
          refine mv_if_neZ (tgt := 11) (a := v3.toInt) d_TrustDeskModel_isWell_4 (by decide) rfl (fun b152 => absurd b152 (by omega)) (fun b152 => ?_)
          refine mv_iconst (v := 1) d_TrustDeskModel_isWell_7 (by decide) ?_
          refine mv_goto (tgt := 12) d_TrustDeskModel_isWell_8 (by decide) ?_
          refine mv_iret d_TrustDeskModel_isWell_12 rfl (by decide) ?_
          refine mv_if_eq_f (tgt := 74) d_TrustDeskModel_factor_67 (by decide) (by decide) ?_
          refine mv_aload_n d_TrustDeskModel_factor_70 rfl rfl ?_
          obtain ⟨_, b159, -⟩ := I137.1 _ _ t142
          refine mv_callV (kc' := 0) (ks' := 0) (As := []) (st9 := [.ref o0]) d_TrustDeskModel_factor_71 lV_TrustDeskModel_237 b159 rfl (tc_TrustDeskModel_next_x (d := (d + 7)) (x9 := x9) (o0 := o0) t142 R140 Z9148.p I137.start) rfl (Nat.le_of_ble_eq_true rfl) (Nat.le_of_ble_eq_true rfl) (Nat.le_of_ble_eq_true rfl) (hst := rfl) (fun b153r M154 n155 b153 => ?_)
          obtain ⟨T156, J157, rfl, R160, f161, f162, f163⟩ := b153
          have I158 := I137.call J157 (tm_sub (by decide)) (Or.inl rfl)
          have t164 := J157.up t142
          have z165 := (rv_c I137 J157 (I137.up h_o0) (k := 19) rfl).trans z145
          have z166 := (rv_c I137 J157 (I137.up h_o0) (k := 22) rfl).trans z146
          have h168 : rv M133 o0 16 + 1 ≤ rv M133 o0 15 := (by have := R140.1 15 _ _ rfl; have := R140.1 16 _ _ rfl; have := R140.1 19 _ _ rfl; have := E147.f yS; omega)
          have E167 : rE M0 M154 o0 1 0 := E147.next f161 f162 (rv_c I137 J157 (I137.up h_o0) (k := 19) rfl) (rE_ha I137 J157 (I137.up h_o0) (by decide)) (e := 1) h168 (by decide)
          obtain ⟨s169, e170⟩ : ∃ s9 : p_S, p_nx ps = s9 := ⟨_, rfl⟩
          rw [e170] at f163
          have := f163.w
          clear z145 z146
          have q171 := J157.keep t142 (by decide) q149
          refine mv_goto (tgt := 118) d_TrustDeskModel_factor_74 (by decide) ?_
          exact mv_vret d_TrustDeskModel_factor_118 rfl ⟨_, I158, rfl, R160, E167, (by have := R160.1 15 _ _ rfl; have := R160.1 16 _ _ rfl; have := R160.1 19 _ _ rfl; have := E167.f yS; omega), (by first | (have := yO.s3 (by omega) (by omega); rw [show p_fac pb pn pa (p_op pb pn pa 1) ps = s169 from (by have hop : (p_op pb pn pa 1) ps = p_sg pb pn 41 (p_sum pb pn pa (p_op pb pn pa 0) (p_nx ps)) := rfl; unfold p_fac; (try simp only [hop]); (try simp only [e170]); ((repeat' (first | (with_reducible rfl) | split)) <;> (exfalso; omega)))]; exact f163) | (exfalso; have := R160.1 15 _ _ rfl; have := R160.1 16 _ _ rfl; have := R160.1 19 _ _ rfl; have := E167.f yS; omega))⟩
        · refine mv_aload_n d_TrustDeskModel_factor_49 rfl rfl ?_
          refine mv_iconst (v := 3) d_TrustDeskModel_factor_50 (by decide) ?_
          obtain ⟨_, b178, -⟩ := I116.1 _ _ t122
          have : (3 : Int32).toInt = 3 := by decide
          refine mv_callV (kc' := 0) (ks' := 0) (As := [.int 3]) (st9 := [.int 3, .ref o0]) d_TrustDeskModel_factor_51 lV_TrustDeskModel_240 b178 rfl (tc_TrustDeskModel_fails_x (d := (d + 8)) (x9 := x9) (o0 := o0) (x1 := 3) t122 R119 (by decide) Z9128 I116.start) rfl (Nat.le_of_ble_eq_true rfl) (Nat.le_of_ble_eq_true rfl) (Nat.le_of_ble_eq_true rfl) (hst := rfl) (fun b172r M173 n174 b172 => ?_)
          obtain ⟨T175, J176, rfl, R179, f180, f181⟩ := b172
          have I177 := I116.call J176 (tm_sub (by decide)) (Or.inl rfl)
          have t182 := J176.up t122
          have z183 := (rv_c I116 J176 (I116.up h_o0) (k := 16) rfl).trans z123
          have z184 := (rv_c I116 J176 (I116.up h_o0) (k := 17) rfl).trans z124
          have z185 := (rv_c I116 J176 (I116.up h_o0) (k := 22) rfl).trans z126
          have E186 : rE M0 M173 o0 0 0 := E127.fails (rE_hv I116 J176 (I116.up h_o0) 15 18 (by decide)) (rE_ha I116 J176 (I116.up h_o0) (by decide)) f180 0 0
          rw [show (3 : Int32).toInt = 3 from by decide] at f181
          obtain ⟨s187, e188⟩ : ∃ s9 : p_S, p_fl pb pn 3 ps = s9 := ⟨_, rfl⟩
          rw [e188] at f181
          have := f181.w
          clear z123 z124 z126
          have q189 := J176.keep t122 (by decide) q130
          refine mv_aload_n d_TrustDeskModel_factor_54 rfl rfl ?_
          refine mv_sipush (v := 10000) d_TrustDeskModel_factor_55 (by decide) ?_
          refine mv_iload_n d_TrustDeskModel_factor_58 rfl rfl ?_
          refine mv_iadd d_TrustDeskModel_factor_59 ?_
          obtain ⟨_, b196, -⟩ := I177.1 _ _ t182
          have b197 : (10000 + v118 : Int32).toInt = (10000 + v118.toInt) := mz_add2 (by decide) rfl (by have := R179.1 15 _ _ rfl; have := R179.1 16 _ _ rfl; have := R179.1 19 _ _ rfl; have := E186.f yS; omega) (by have := R179.1 15 _ _ rfl; have := R179.1 16 _ _ rfl; have := R179.1 19 _ _ rfl; have := E186.f yS; omega)
          refine mv_callV (kc' := 0) (ks' := 0) (As := [.int (10000 + v118)]) (st9 := [.int (10000 + v118), .ref o0]) d_TrustDeskModel_factor_60 lV_TrustDeskModel_279 b196 rfl (tc_TrustDeskModel_emits_x (d := (d + 7)) (x9 := x9) (o0 := o0) (x1 := (10000 + v118)) t182 R179 (by have := R179.1 15 _ _ rfl; have := R179.1 16 _ _ rfl; have := R179.1 19 _ _ rfl; have := E186.f yS; omega) (by have := R179.1 15 _ _ rfl; have := R179.1 16 _ _ rfl; have := R179.1 19 _ _ rfl; have := E186.f yS; omega) I177.start) rfl (Nat.le_of_ble_eq_true rfl) (Nat.le_of_ble_eq_true rfl) (Nat.le_of_ble_eq_true rfl) (hst := rfl) (fun b190r M191 n192 b190 => ?_)
          obtain ⟨T193, J194, rfl, R198, f199⟩ := b190
          have I195 := I177.call J194 (tm_sub (by decide)) (Or.inl rfl)
          have t200 := J194.up t182
          have z201 := (rv_c I177 J194 (I177.up h_o0) (k := 16) rfl).trans z183
          have z202 := (rv_c I177 J194 (I177.up h_o0) (k := 17) rfl).trans z184
          have z203 := (rv_c I177 J194 (I177.up h_o0) (k := 19) rfl)
          have z204 := (rv_c I177 J194 (I177.up h_o0) (k := 22) rfl).trans z185
          have E205 : rE M0 M191 o0 1 (-1) := E186.emit f199 (rE_hv I177 J194 (I177.up h_o0) 15 19 (by decide)) (yR.2 5 _ _ rfl 44).1 (by decide) (Or.inl ⟨by have := R179.1 15 _ _ rfl; have := R179.1 16 _ _ rfl; have := R179.1 19 _ _ rfl; have := E186.f yS; omega, by decide⟩) (by decide)
          have Z9206 : pO M191 o0 pb pn pa s187 := f181.same (rE_hv I177 J194 (I177.up h_o0) 14 20 (by decide)) (rv_c I177 J194 (I177.up h_o0) (k := 23) rfl) (ra_call I177 J194 (I177.up h_o0) (k := 13) rfl rfl rfl)
          clear z183 z184 z185
          have q207 := J194.keep t182 (by decide) q189
          refine mv_aload_n d_TrustDeskModel_factor_63 rfl rfl ?_
          obtain ⟨_, b208, -⟩ := I195.1 _ _ t200
          refine mv_callV (kc1 := 0) (ks1 := 0) (kc' := 0) (ks' := 0) (As := []) (st9 := [.ref o0]) d_TrustDeskModel_factor_64 lV_TrustDeskModel_230 b208 rfl (mj_enter (by decide) (Nat.le_of_ble_eq_true rfl) ?_) rfl (Nat.le_of_ble_eq_true rfl) (Nat.le_of_ble_eq_true rfl) (Nat.le_of_ble_eq_true rfl) (hst := rfl) (fun _ _ _ h => h)
          refine mv_aload_n d_TrustDeskModel_isWell_0 rfl rfl ?_
          obtain ⟨v210, q209⟩ := tm_atI I195 t200 (k := 19) rfl
          refine tr_getK q209 d_TrustDeskModel_isWell_1 f_TrustDeskModel_224_13 ?_
          have := R198.f (k := 19) q209 rfl
          have := (tm_rv q209).symm.trans z203
          have := tm_rv q209
          have := mz_hi v210
          refine mv_if_neZ (tgt := 11) (a := v210.toInt) d_TrustDeskModel_isWell_4 (by decide) rfl (fun b211 => ?_) (fun b211 => ?_)
          · refine mv_iconst (v := 0) d_TrustDeskModel_isWell_11 (by decide) ?_
            refine mv_iret d_TrustDeskModel_isWell_12 rfl (by decide) ?_
            refine mv_if_eq_t (tgt := 74) d_TrustDeskModel_factor_67 (by decide) (by decide) ?_
            refine mv_goto (tgt := 118) d_TrustDeskModel_factor_74 (by decide) ?_
            exact mv_vret d_TrustDeskModel_factor_118 rfl ⟨_, I195, rfl, R198, E205.vac (by have := R198.1 15 _ _ rfl; have := R198.1 16 _ _ rfl; have := R198.1 19 _ _ rfl; have := E205.f yS; omega) 1 0, (by have := R198.1 15 _ _ rfl; have := R198.1 16 _ _ rfl; have := R198.1 19 _ _ rfl; have := E205.f yS; omega), (by first | (have := yO.s3 (by omega) (by omega); rw [show p_fac pb pn pa (p_op pb pn pa 1) ps = s187 from (by have hop : (p_op pb pn pa 1) ps = p_sg pb pn 41 (p_sum pb pn pa (p_op pb pn pa 0) (p_nx ps)) := rfl; unfold p_fac; (try simp only [hop]); (try simp only [e188]); ((repeat' (first | (with_reducible rfl) | split)) <;> (exfalso; omega)))]; exact Z9206) | (exfalso; have := R198.1 15 _ _ rfl; have := R198.1 16 _ _ rfl; have := R198.1 19 _ _ rfl; have := E205.f yS; omega))⟩
          · refine mv_iconst (v := 1) d_TrustDeskModel_isWell_7 (by decide) ?_
            refine mv_goto (tgt := 12) d_TrustDeskModel_isWell_8 (by decide) ?_
            refine mv_iret d_TrustDeskModel_isWell_12 rfl (by decide) ?_
            refine mv_if_eq_f (tgt := 74) d_TrustDeskModel_factor_67 (by decide) (by decide) ?_
            refine mv_aload_n d_TrustDeskModel_factor_70 rfl rfl ?_
            obtain ⟨_, b218, -⟩ := I195.1 _ _ t200
            refine mv_callV (kc' := 0) (ks' := 0) (As := []) (st9 := [.ref o0]) d_TrustDeskModel_factor_71 lV_TrustDeskModel_237 b218 rfl (tc_TrustDeskModel_next_x (d := (d + 7)) (x9 := x9) (o0 := o0) t200 R198 Z9206.p I195.start) rfl (Nat.le_of_ble_eq_true rfl) (Nat.le_of_ble_eq_true rfl) (Nat.le_of_ble_eq_true rfl) (hst := rfl) (fun b212r M213 n214 b212 => ?_)
            obtain ⟨T215, J216, rfl, R219, f220, f221, f222⟩ := b212
            have I217 := I195.call J216 (tm_sub (by decide)) (Or.inl rfl)
            have t223 := J216.up t200
            have z224 := (rv_c I195 J216 (I195.up h_o0) (k := 19) rfl).trans z203
            have z225 := (rv_c I195 J216 (I195.up h_o0) (k := 22) rfl).trans z204
            have h227 : rv M191 o0 16 + 1 ≤ rv M191 o0 15 := (by have := R198.1 15 _ _ rfl; have := R198.1 16 _ _ rfl; have := R198.1 19 _ _ rfl; have := E205.f yS; omega)
            have E226 : rE M0 M213 o0 1 0 := E205.next f220 f221 (rv_c I195 J216 (I195.up h_o0) (k := 19) rfl) (rE_ha I195 J216 (I195.up h_o0) (by decide)) (e := 1) h227 (by decide)
            obtain ⟨s228, e229⟩ : ∃ s9 : p_S, p_nx s187 = s9 := ⟨_, rfl⟩
            rw [e229] at f222
            have := f222.w
            clear z203 z204
            have q230 := J216.keep t200 (by decide) q209
            refine mv_goto (tgt := 118) d_TrustDeskModel_factor_74 (by decide) ?_
            exact mv_vret d_TrustDeskModel_factor_118 rfl ⟨_, I217, rfl, R219, E226, (by have := R219.1 15 _ _ rfl; have := R219.1 16 _ _ rfl; have := R219.1 19 _ _ rfl; have := E226.f yS; omega), (by first | (have := yO.s3 (by omega) (by omega); rw [show p_fac pb pn pa (p_op pb pn pa 1) ps = s228 from (by have hop : (p_op pb pn pa 1) ps = p_sg pb pn 41 (p_sum pb pn pa (p_op pb pn pa 0) (p_nx ps)) := rfl; unfold p_fac; (try simp only [hop]); (try simp only [e188, e229]); ((repeat' (first | (with_reducible rfl) | split)) <;> (exfalso; omega)))]; exact f222) | (exfalso; have := R219.1 15 _ _ rfl; have := R219.1 16 _ _ rfl; have := R219.1 19 _ _ rfl; have := E226.f yS; omega))⟩
    · refine mv_aload_n d_TrustDeskModel_factor_16 rfl rfl ?_
      refine mv_aload_n d_TrustDeskModel_factor_17 rfl rfl ?_
      obtain ⟨v232, q231⟩ := tm_atI I0 h_o0 (k := 18) rfl
      refine tr_getK q231 d_TrustDeskModel_factor_18 f_TrustDeskModel_201_13 ?_
      have := yR.f (k := 18) q231 rfl
      have := tm_rv q231
      obtain ⟨_, b239, -⟩ := I0.1 _ _ h_o0
      refine mv_callV (kc' := 0) (ks' := 0) (As := [.int v232]) (st9 := [.int v232, .ref o0]) d_TrustDeskModel_factor_21 lV_TrustDeskModel_279 b239 rfl (tc_TrustDeskModel_emits_x (d := (d + 7)) (x9 := x9) (o0 := o0) (x1 := v232) h_o0 yR (by have := yR.1 15 _ _ rfl; have := yR.1 16 _ _ rfl; have := yR.1 19 _ _ rfl; have := yE0.f yS; omega) (by have := yR.1 15 _ _ rfl; have := yR.1 16 _ _ rfl; have := yR.1 19 _ _ rfl; have := yE0.f yS; omega) I0.start) rfl (Nat.le_of_ble_eq_true rfl) (Nat.le_of_ble_eq_true rfl) (Nat.le_of_ble_eq_true rfl) (hst := rfl) (fun b233r M234 n235 b233 => ?_)
      obtain ⟨T236, J237, rfl, R240, f241⟩ := b233
      have I238 := I0.call J237 (tm_sub (by decide)) (Or.inl rfl)
      have t242 := J237.up h_o0
      have z243 := (rv_c I0 J237 (I0.up h_o0) (k := 16) rfl)
      have z244 := (rv_c I0 J237 (I0.up h_o0) (k := 17) rfl)
      have z245 := (rv_c I0 J237 (I0.up h_o0) (k := 19) rfl)
      have z246 := (rv_c I0 J237 (I0.up h_o0) (k := 22) rfl)
      have E247 : rE M0 M234 o0 1 (-1) := yE0.emit f241 (rE_hv I0 J237 (I0.up h_o0) 15 19 (by decide)) (yR.2 5 _ _ rfl 44).1 (by decide) (Or.inl ⟨by have := yR.1 15 _ _ rfl; have := yR.1 16 _ _ rfl; have := yR.1 19 _ _ rfl; have := yE0.f yS; omega, by decide⟩) (by decide)
      have Z9248 : pO M234 o0 pb pn pa ps := yO.same (rE_hv I0 J237 (I0.up h_o0) 14 20 (by decide)) (rv_c I0 J237 (I0.up h_o0) (k := 23) rfl) (ra_call I0 J237 (I0.up h_o0) (k := 13) rfl rfl rfl)
      have q249 := J237.keep h_o0 (by decide) q2
      have q250 := J237.keep h_o0 (by decide) q5
      have q251 := J237.keep h_o0 (by decide) q231
      refine mv_aload_n d_TrustDeskModel_factor_24 rfl rfl ?_
      obtain ⟨_, b258, -⟩ := I238.1 _ _ t242
      refine mv_callV (kc' := 0) (ks' := 0) (As := []) (st9 := [.ref o0]) d_TrustDeskModel_factor_25 lV_TrustDeskModel_237 b258 rfl (tc_TrustDeskModel_next_x (d := (d + 7)) (x9 := x9) (o0 := o0) t242 R240 Z9248.p I238.start) rfl (Nat.le_of_ble_eq_true rfl) (Nat.le_of_ble_eq_true rfl) (Nat.le_of_ble_eq_true rfl) (hst := rfl) (fun b252r M253 n254 b252 => ?_)
      obtain ⟨T255, J256, rfl, R259, f260, f261, f262⟩ := b252
      have I257 := I238.call J256 (tm_sub (by decide)) (Or.inl rfl)
      have t263 := J256.up t242
      have z264 := (rv_c I238 J256 (I238.up h_o0) (k := 19) rfl).trans z245
      have z265 := (rv_c I238 J256 (I238.up h_o0) (k := 22) rfl).trans z246
      have h267 : rv M234 o0 16 + 1 ≤ rv M234 o0 15 := (by have := R240.1 15 _ _ rfl; have := R240.1 16 _ _ rfl; have := R240.1 19 _ _ rfl; have := E247.f yS; omega)
      have E266 : rE M0 M253 o0 1 0 := E247.next f260 f261 (rv_c I238 J256 (I238.up h_o0) (k := 19) rfl) (rE_ha I238 J256 (I238.up h_o0) (by decide)) (e := 1) h267 (by decide)
      obtain ⟨s268, e269⟩ : ∃ s9 : p_S, p_nx ps = s9 := ⟨_, rfl⟩
      rw [e269] at f262
      have := f262.w
      clear z245 z246
      have q270 := J256.keep t242 (by decide) q249
      refine mv_goto (tgt := 118) d_TrustDeskModel_factor_28 (by decide) ?_
      exact mv_vret d_TrustDeskModel_factor_118 rfl ⟨_, I257, rfl, R259, E266, (by have := R259.1 15 _ _ rfl; have := R259.1 16 _ _ rfl; have := R259.1 19 _ _ rfl; have := E266.f yS; omega), (by first | (have := yO.s2 (by omega) (by omega); rw [show p_fac pb pn pa (p_op pb pn pa 1) ps = s268 from (by have hop : (p_op pb pn pa 1) ps = p_sg pb pn 41 (p_sum pb pn pa (p_op pb pn pa 0) (p_nx ps)) := rfl; unfold p_fac; (try simp only [hop]); (try simp only [e269]); ((repeat' (first | (with_reducible rfl) | split)) <;> (exfalso; omega)))]; exact f262) | (exfalso; have := R259.1 15 _ _ rfl; have := R259.1 16 _ _ rfl; have := R259.1 19 _ _ rfl; have := E266.f yS; omega))⟩
def w_TrustDeskModel_product_q2_x : List Nat := [1315, 1316, 1317, 1318, 1319, 1320, 1322, 20004, 20005]
set_option maxHeartbeats 100000000 in theorem tc_TrustDeskModel_product_q2_x {g : mj_G} {l : Launch} {d : Nat} {T0 : tm_H} {M0 : mj_M} {n0 x9 : Nat} {o0 : Nat} (h_o0 : T0 o0 = some (0, 13, 0)) (yR : rI M0 o0) (yT : rT M0 o0) (yS : rv M0 o0 19 = 0 → ra M0 o0 5 44 ≤ rv M0 o0 16) (yL : rv M0 o0 19 ≠ 0 ∨ (3 ≤ rv M0 o0 22 ∧ rv M0 o0 22 ≤ 3)) {pb : Nat → Int} {pn : Nat} {pa : Int} {ps : p_S} (yO : pO M0 o0 pb pn pa ps) (I0 : tm_I tm_FT (tm_in w_TrustDeskModel_product_q2_x) x9 T0 M0 n0 T0 M0 n0) : mj_Met g l kY_TrustDeskModel_product (d + 10) [.ref o0] M0 n0 0 0 (tm_Q tm_FT (tm_in w_TrustDeskModel_product_q2_x) x9 T0 M0 n0 (fun r _ M => r = none ∧ rI M o0 ∧ (rE M0 M o0 1 0) ∧ (rv M o0 19 = 0 → rv M o0 22 = rv M0 o0 22) ∧ (pO M o0 pb pn pa (p_pro pb pn pa (p_op pb pn pa 1) ps)))) := by
  refine mj_enter (by decide) (Nat.le_of_ble_eq_true rfl) ?_
  have yE0 := rE.rf yT
  have := yO.w
  refine mv_aload_n d_TrustDeskModel_product_0 rfl rfl ?_
  obtain ⟨_, b7, -⟩ := I0.1 _ _ h_o0
  refine mv_callV (kc' := 0) (ks' := 0) (As := []) (st9 := [.ref o0]) d_TrustDeskModel_product_1 lV_TrustDeskModel_294 b7 rfl (tc_TrustDeskModel_factor_q2_x (d := d) (x9 := x9) (o0 := o0) h_o0 yR yE0.1 (by have := yR.1 15 _ _ rfl; have := yR.1 16 _ _ rfl; have := yR.1 19 _ _ rfl; have := yE0.f yS; omega) (by have := yR.1 15 _ _ rfl; have := yR.1 16 _ _ rfl; have := yR.1 19 _ _ rfl; have := yE0.f yS; omega) yO I0.start) rfl (Nat.le_of_ble_eq_true rfl) (Nat.le_of_ble_eq_true rfl) (Nat.le_of_ble_eq_true rfl) (hst := rfl) (fun b1r M2 n3 b1 => ?_)
  obtain ⟨T4, J5, rfl, R8, f9, f10, f11⟩ := b1
  have I6 := I0.call J5 (tm_sub (by decide)) (Or.inl rfl)
  have t12 := J5.up h_o0
  have E13 : rE M0 M2 o0 1 0 := yE0.trans f9 (by decide) (yR.2 5 _ _ rfl 44).1 (by decide) (by decide)
  have := f9.w
  obtain ⟨s14, e15⟩ : ∃ s9 : p_S, p_fac pb pn pa (p_op pb pn pa 1) ps = s9 := ⟨_, rfl⟩
  rw [e15] at f11
  have := f11.w
  have L4_16 : ∀ (k : Nat) (T_16 : tm_H) (M_16 : mj_M) (n_16 : Nat), tm_I tm_FT (tm_in w_TrustDeskModel_product_q2_x) x9 T0 M0 n0 T_16 M_16 n_16 → T_16 o0 = some (0, 13, 0) → (rv M_16 o0 19 = 0 → rv M_16 o0 22 = rv M0 o0 22) → (rI M_16 o0) → (rE M0 M_16 o0 1 0) → (∃ s1 : p_S, pO M_16 o0 pb pn pa s1 ∧ p_lp pn (p_pr1 pb pn pa (p_op pb pn pa 1)) s1 = p_pro pb pn pa (p_op pb pn pa 1) ps) → 5 * (401 - rv M_16 o0 16) - rv M_16 o0 19 < (k : Int) → mj_V g l kY_TrustDeskModel_product (d + 10) 4 [(0, .ref o0)] [] M_16 n_16 0 0 (tm_Q tm_FT (tm_in w_TrustDeskModel_product_q2_x) x9 T0 M0 n0 (fun r _ M => r = none ∧ rI M o0 ∧ (rE M0 M o0 1 0) ∧ (rv M o0 19 = 0 → rv M o0 22 = rv M0 o0 22) ∧ (pO M o0 pb pn pa (p_pro pb pn pa (p_op pb pn pa 1) ps)))) := by
    intro k16
    induction k16 with
    | zero =>
      intro T_16 M_16 n_16 I_16 h_q0_16 iv0_16 kKR_16 kKE_16 kKT9_16 hk16
      have := kKR_16.1 15 _ _ rfl
      have := kKR_16.1 16 _ _ rfl
      have := kKR_16.1 19 _ _ rfl
      exfalso; omega
    | succ k16 ih16 =>
      intro T_16 M_16 n_16 I_16 h_q0_16 iv0_16 kKR_16 kKE_16 kKT9_16 hk16
      have := kKE_16.f yS
      obtain ⟨s17, Z918, e19⟩ := kKT9_16
      have := Z918.w
      refine mv_aload_n d_TrustDeskModel_product_4 rfl rfl ?_
      obtain ⟨_, b20, -⟩ := I_16.1 _ _ h_q0_16
      refine mv_callV (kc1 := 0) (ks1 := 0) (kc' := 0) (ks' := 0) (As := []) (st9 := [.ref o0]) d_TrustDeskModel_product_5 lV_TrustDeskModel_230 b20 rfl (mj_enter (by decide) (Nat.le_of_ble_eq_true rfl) ?_) rfl (Nat.le_of_ble_eq_true rfl) (Nat.le_of_ble_eq_true rfl) (Nat.le_of_ble_eq_true rfl) (hst := rfl) (fun _ _ _ h => h)
      refine mv_aload_n d_TrustDeskModel_isWell_0 rfl rfl ?_
      obtain ⟨v22, q21⟩ := tm_atI I_16 h_q0_16 (k := 19) rfl
      refine tr_getK q21 d_TrustDeskModel_isWell_1 f_TrustDeskModel_224_13 ?_
      have := kKR_16.f (k := 19) q21 rfl
      have := tm_rv q21
      have := mz_hi v22
      refine mv_if_neZ (tgt := 11) (a := v22.toInt) d_TrustDeskModel_isWell_4 (by decide) rfl (fun b23 => ?_) (fun b23 => ?_)
      · refine mv_iconst (v := 0) d_TrustDeskModel_isWell_11 (by decide) ?_
        refine mv_iret d_TrustDeskModel_isWell_12 rfl (by decide) ?_
        refine mv_if_eq_t (tgt := 37) d_TrustDeskModel_product_8 (by decide) (by decide) ?_
        exact mv_vret d_TrustDeskModel_product_37 rfl ⟨_, I_16, rfl, kKR_16, kKE_16, (by have := kKR_16.1 15 _ _ rfl; have := kKR_16.1 16 _ _ rfl; have := kKR_16.1 19 _ _ rfl; have := kKE_16.f yS; omega), (by first | (have hX := e19.symm.trans (p_lp_stop (show (p_pr1 pb pn pa (p_op pb pn pa 1)) s17 = s17 from if_neg (fun h9 => by omega))); rw [show p_pro pb pn pa (p_op pb pn pa 1) ps = s17 from (by exact hX)]; exact Z918) | (exfalso; have := kKR_16.1 15 _ _ rfl; have := kKR_16.1 16 _ _ rfl; have := kKR_16.1 19 _ _ rfl; have := kKE_16.f yS; omega))⟩
      · refine mv_iconst (v := 1) d_TrustDeskModel_isWell_7 (by decide) ?_
        refine mv_goto (tgt := 12) d_TrustDeskModel_isWell_8 (by decide) ?_
        refine mv_iret d_TrustDeskModel_isWell_12 rfl (by decide) ?_
        refine mv_if_eq_f (tgt := 37) d_TrustDeskModel_product_8 (by decide) (by decide) ?_
        refine mv_aload_n d_TrustDeskModel_product_11 rfl rfl ?_
        refine mv_bipush (v := 42) d_TrustDeskModel_product_12 (by decide) ?_
        obtain ⟨_, b24, -⟩ := I_16.1 _ _ h_q0_16
        refine mv_callV (kc1 := 0) (ks1 := 0) (kc' := 0) (ks' := 0) (As := [.int 42]) (st9 := [.int 42, .ref o0]) d_TrustDeskModel_product_14 lV_TrustDeskModel_234 b24 rfl (mj_enter (by decide) (Nat.le_of_ble_eq_true rfl) ?_) rfl (Nat.le_of_ble_eq_true rfl) (Nat.le_of_ble_eq_true rfl) (Nat.le_of_ble_eq_true rfl) (hst := rfl) (fun _ _ _ h => h)
        refine mv_aload_n d_TrustDeskModel_isSign_0 rfl rfl ?_
        obtain ⟨v26, q25⟩ := tm_atI I_16 h_q0_16 (k := 17) rfl
        refine tr_getK q25 d_TrustDeskModel_isSign_1 f_TrustDeskModel_198_13 ?_
        have := tm_rv q25
        refine mv_iconst (v := 4) d_TrustDeskModel_isSign_4 (by decide) ?_
        have := mz_hi v26
        refine mv_icmp_neZ (tgt := 20) (a := v26.toInt) (b := 4) d_TrustDeskModel_isSign_5 (by decide) rfl (by decide) (fun b27 => ?_) (fun b27 => ?_)
        · refine mv_iconst (v := 0) d_TrustDeskModel_isSign_20 (by decide) ?_
          refine mv_iret d_TrustDeskModel_isSign_21 rfl (by decide) ?_
          refine mv_if_eq_t (tgt := 37) d_TrustDeskModel_product_17 (by decide) (by decide) ?_
          exact mv_vret d_TrustDeskModel_product_37 rfl ⟨_, I_16, rfl, kKR_16, kKE_16, (by have := kKR_16.1 15 _ _ rfl; have := kKR_16.1 16 _ _ rfl; have := kKR_16.1 19 _ _ rfl; have := kKE_16.f yS; omega), (by first | (have := Z918.n4 (by omega) (by omega); have hX := e19.symm.trans (p_lp_stop (show (p_pr1 pb pn pa (p_op pb pn pa 1)) s17 = s17 from if_neg (fun h9 => by omega))); rw [show p_pro pb pn pa (p_op pb pn pa 1) ps = s17 from (by exact hX)]; exact Z918) | (exfalso; have := kKR_16.1 15 _ _ rfl; have := kKR_16.1 16 _ _ rfl; have := kKR_16.1 19 _ _ rfl; have := kKE_16.f yS; omega))⟩
        · refine mv_aload_n d_TrustDeskModel_isSign_8 rfl rfl ?_
          obtain ⟨v29, q28⟩ := tm_atI I_16 h_q0_16 (k := 18) rfl
          refine tr_getK q28 d_TrustDeskModel_isSign_9 f_TrustDeskModel_201_13 ?_
          have := kKR_16.f (k := 18) q28 rfl
          have := tm_rv q28
          refine mv_iload_n d_TrustDeskModel_isSign_12 rfl rfl ?_
          have := mz_hi v29
          refine mv_icmp_neZ (tgt := 20) (a := v29.toInt) (b := 42) d_TrustDeskModel_isSign_13 (by decide) rfl (by decide) (fun b30 => ?_) (fun b30 => ?_)
          · refine mv_iconst (v := 0) d_TrustDeskModel_isSign_20 (by decide) ?_
            refine mv_iret d_TrustDeskModel_isSign_21 rfl (by decide) ?_
            refine mv_if_eq_t (tgt := 37) d_TrustDeskModel_product_17 (by decide) (by decide) ?_
            exact mv_vret d_TrustDeskModel_product_37 rfl ⟨_, I_16, rfl, kKR_16, kKE_16, (by have := kKR_16.1 15 _ _ rfl; have := kKR_16.1 16 _ _ rfl; have := kKR_16.1 19 _ _ rfl; have := kKE_16.f yS; omega), (by first | (have := Z918.s4 (by omega) (by omega); have hX := e19.symm.trans (p_lp_stop (show (p_pr1 pb pn pa (p_op pb pn pa 1)) s17 = s17 from if_neg (fun h9 => by omega))); rw [show p_pro pb pn pa (p_op pb pn pa 1) ps = s17 from (by exact hX)]; exact Z918) | (exfalso; have := kKR_16.1 15 _ _ rfl; have := kKR_16.1 16 _ _ rfl; have := kKR_16.1 19 _ _ rfl; have := kKE_16.f yS; omega))⟩
          · refine mv_iconst (v := 1) d_TrustDeskModel_isSign_16 (by decide) ?_
            refine mv_goto (tgt := 21) d_TrustDeskModel_isSign_17 (by decide) ?_
            refine mv_iret d_TrustDeskModel_isSign_21 rfl (by decide) ?_
            refine mv_if_eq_f (tgt := 37) d_TrustDeskModel_product_17 (by decide) (by decide) ?_
            refine mv_aload_n d_TrustDeskModel_product_20 rfl rfl ?_
            obtain ⟨_, b37, -⟩ := I_16.1 _ _ h_q0_16
            refine mv_callV (kc' := 0) (ks' := 0) (As := []) (st9 := [.ref o0]) d_TrustDeskModel_product_21 lV_TrustDeskModel_237 b37 rfl (tc_TrustDeskModel_next_x (d := (d + 8)) (x9 := x9) (o0 := o0) h_q0_16 kKR_16 Z918.p I_16.start) rfl (Nat.le_of_ble_eq_true rfl) (Nat.le_of_ble_eq_true rfl) (Nat.le_of_ble_eq_true rfl) (hst := rfl) (fun b31r M32 n33 b31 => ?_)
            obtain ⟨T34, J35, rfl, R38, f39, f40, f41⟩ := b31
            have I36 := I_16.call J35 (tm_sub (by decide)) (Or.inl rfl)
            have t42 := J35.up h_q0_16
            have z43 := (rv_c I_16 J35 (I_16.up h_o0) (k := 19) rfl)
            have z44 := (rv_c I_16 J35 (I_16.up h_o0) (k := 22) rfl)
            have h46 : rv M_16 o0 16 + 1 ≤ rv M_16 o0 15 := (by have := kKR_16.1 15 _ _ rfl; have := kKR_16.1 16 _ _ rfl; have := kKR_16.1 19 _ _ rfl; have := kKE_16.f yS; omega)
            have E45 : rE M0 M32 o0 1 1 := kKE_16.next f39 f40 (rv_c I_16 J35 (I_16.up h_o0) (k := 19) rfl) (rE_ha I_16 J35 (I_16.up h_o0) (by decide)) (e := 1) h46 (by decide)
            obtain ⟨s47, e48⟩ : ∃ s9 : p_S, p_nx s17 = s9 := ⟨_, rfl⟩
            rw [e48] at f41
            have := f41.w
            have q49 := J35.keep h_q0_16 (by decide) q21
            refine mv_aload_n d_TrustDeskModel_product_24 rfl rfl ?_
            obtain ⟨_, b56, -⟩ := I36.1 _ _ t42
            refine mv_callV (kc' := 0) (ks' := 0) (As := []) (st9 := [.ref o0]) d_TrustDeskModel_product_25 lV_TrustDeskModel_294 b56 rfl (tc_TrustDeskModel_factor_q2_x (d := d) (x9 := x9) (o0 := o0) t42 R38 E45.1 (by have := R38.1 15 _ _ rfl; have := R38.1 16 _ _ rfl; have := R38.1 19 _ _ rfl; have := E45.f yS; omega) (by have := R38.1 15 _ _ rfl; have := R38.1 16 _ _ rfl; have := R38.1 19 _ _ rfl; have := E45.f yS; omega) f41 I36.start) rfl (Nat.le_of_ble_eq_true rfl) (Nat.le_of_ble_eq_true rfl) (Nat.le_of_ble_eq_true rfl) (hst := rfl) (fun b50r M51 n52 b50 => ?_)
            obtain ⟨T53, J54, rfl, R57, f58, f59, f60⟩ := b50
            have I55 := I36.call J54 (tm_sub (by decide)) (Or.inl rfl)
            have t61 := J54.up t42
            have E62 : rE M0 M51 o0 2 1 := E45.trans f58 (by decide) (yR.2 5 _ _ rfl 44).1 (by decide) (by decide)
            have := f58.w
            obtain ⟨s63, e64⟩ : ∃ s9 : p_S, p_fac pb pn pa (p_op pb pn pa 1) s47 = s9 := ⟨_, rfl⟩
            rw [e64] at f60
            have := f60.w
            refine mv_aload_n d_TrustDeskModel_product_28 rfl rfl ?_
            refine mv_bipush (v := (-3)) d_TrustDeskModel_product_29 (by decide) ?_
            obtain ⟨_, b71, -⟩ := I55.1 _ _ t61
            have : ((-3) : Int32).toInt = (-3) := by decide
            refine mv_callV (kc' := 0) (ks' := 0) (As := [.int (-3)]) (st9 := [.int (-3), .ref o0]) d_TrustDeskModel_product_31 lV_TrustDeskModel_279 b71 rfl (tc_TrustDeskModel_emits_x (d := (d + 8)) (x9 := x9) (o0 := o0) (x1 := (-3)) t61 R57 (by have := R57.1 15 _ _ rfl; have := R57.1 16 _ _ rfl; have := R57.1 19 _ _ rfl; have := E62.f yS; omega) (by decide) I55.start) rfl (Nat.le_of_ble_eq_true rfl) (Nat.le_of_ble_eq_true rfl) (Nat.le_of_ble_eq_true rfl) (hst := rfl) (fun b65r M66 n67 b65 => ?_)
            obtain ⟨T68, J69, rfl, R72, f73⟩ := b65
            have I70 := I55.call J69 (tm_sub (by decide)) (Or.inl rfl)
            have t74 := J69.up t61
            have z75 := (rv_c I55 J69 (I55.up h_o0) (k := 16) rfl)
            have z76 := (rv_c I55 J69 (I55.up h_o0) (k := 17) rfl)
            have z77 := (rv_c I55 J69 (I55.up h_o0) (k := 19) rfl)
            have z78 := (rv_c I55 J69 (I55.up h_o0) (k := 22) rfl)
            have E79 : rE M0 M66 o0 1 0 := E62.emit f73 (rE_hv I55 J69 (I55.up h_o0) 15 19 (by decide)) (yR.2 5 _ _ rfl 44).1 (by decide) (Or.inr (Or.inr ⟨by decide, by decide, by decide, by decide⟩)) (by decide)
            have Z980 : pO M66 o0 pb pn pa s63 := f60.same (rE_hv I55 J69 (I55.up h_o0) 14 20 (by decide)) (rv_c I55 J69 (I55.up h_o0) (k := 23) rfl) (ra_call I55 J69 (I55.up h_o0) (k := 13) rfl rfl rfl)
            refine mv_goto (tgt := 4) d_TrustDeskModel_product_34 (by decide) ?_
            have T81 : ∃ s1 : p_S, pO M66 o0 pb pn pa s1 ∧ p_lp pn (p_pr1 pb pn pa (p_op pb pn pa 1)) s1 = p_pro pb pn pa (p_op pb pn pa 1) ps := ⟨s63, Z980, (by have st : (p_pr1 pb pn pa (p_op pb pn pa 1)) s17 = s63 := (by have := Z918.s4 (by omega) (by omega); rw [show (p_pr1 pb pn pa (p_op pb pn pa 1)) s17 = p_fac pb pn pa (p_op pb pn pa 1) (p_nx s17) from if_pos ⟨by omega, by omega⟩]; simp only [e48, e64]); rw [← st, p_P.go (p_pr1_P (p_op_M _)) s17]; exact e19)⟩
            exact (ih16 T68 M66 n67 I70 t74 (by have := R72.1 15 _ _ rfl; have := R72.1 16 _ _ rfl; have := R72.1 19 _ _ rfl; have := E79.f yS; first | omega | decide | exact fun h9 => absurd (by decide) h9) R72 E79 T81 (by have := R72.1 15 _ _ rfl; have := R72.1 16 _ _ rfl; have := R72.1 19 _ _ rfl; have := E79.f yS; omega))
  have T82 : ∃ s1 : p_S, pO M2 o0 pb pn pa s1 ∧ p_lp pn (p_pr1 pb pn pa (p_op pb pn pa 1)) s1 = p_pro pb pn pa (p_op pb pn pa 1) ps := ⟨s14, f11, (by rw [← e15]; rfl)⟩
  exact mv_less (Nat.zero_le _) (Nat.zero_le _) (L4_16 4294967296 T4 M2 n3 I6 t12 (by have := R8.1 15 _ _ rfl; have := R8.1 16 _ _ rfl; have := R8.1 19 _ _ rfl; have := E13.f yS; first | omega | decide | exact fun h9 => absurd (by decide) h9) R8 E13 T82 (by have := R8.1 15 _ _ rfl; have := R8.1 16 _ _ rfl; have := R8.1 19 _ _ rfl; have := E13.f yS; omega))
def w_TrustDeskModel_sum_q2_x : List Nat := [1315, 1316, 1317, 1318, 1319, 1320, 1322, 20004, 20005]
set_option maxHeartbeats 100000000 in theorem tc_TrustDeskModel_sum_q2_x {g : mj_G} {l : Launch} {d : Nat} {T0 : tm_H} {M0 : mj_M} {n0 x9 : Nat} {o0 : Nat} (h_o0 : T0 o0 = some (0, 13, 0)) (yR : rI M0 o0) (yT : rT M0 o0) (yS : rv M0 o0 19 = 0 → ra M0 o0 5 44 ≤ rv M0 o0 16) (yL : rv M0 o0 19 ≠ 0 ∨ (3 ≤ rv M0 o0 22 ∧ rv M0 o0 22 ≤ 3)) {pb : Nat → Int} {pn : Nat} {pa : Int} {ps : p_S} (yO : pO M0 o0 pb pn pa ps) (I0 : tm_I tm_FT (tm_in w_TrustDeskModel_sum_q2_x) x9 T0 M0 n0 T0 M0 n0) : mj_Met g l kY_TrustDeskModel_sum (d + 11) [.ref o0] M0 n0 0 0 (tm_Q tm_FT (tm_in w_TrustDeskModel_sum_q2_x) x9 T0 M0 n0 (fun r _ M => r = none ∧ rI M o0 ∧ (rE M0 M o0 1 0) ∧ (rv M o0 19 = 0 → rv M o0 22 = rv M0 o0 22) ∧ (pO M o0 pb pn pa (p_sum pb pn pa (p_op pb pn pa 1) ps)))) := by
  refine mj_enter (by decide) (Nat.le_of_ble_eq_true rfl) ?_
  have yE0 := rE.rf yT
  have := yO.w
  refine mv_aload_n d_TrustDeskModel_sum_0 rfl rfl ?_
  obtain ⟨_, b7, -⟩ := I0.1 _ _ h_o0
  refine mv_callV (kc' := 0) (ks' := 0) (As := []) (st9 := [.ref o0]) d_TrustDeskModel_sum_1 lV_TrustDeskModel_297 b7 rfl (tc_TrustDeskModel_product_q2_x (d := d) (x9 := x9) (o0 := o0) h_o0 yR yE0.1 (by have := yR.1 15 _ _ rfl; have := yR.1 16 _ _ rfl; have := yR.1 19 _ _ rfl; have := yE0.f yS; omega) (by have := yR.1 15 _ _ rfl; have := yR.1 16 _ _ rfl; have := yR.1 19 _ _ rfl; have := yE0.f yS; omega) yO I0.start) rfl (Nat.le_of_ble_eq_true rfl) (Nat.le_of_ble_eq_true rfl) (Nat.le_of_ble_eq_true rfl) (hst := rfl) (fun b1r M2 n3 b1 => ?_)
  obtain ⟨T4, J5, rfl, R8, f9, f10, f11⟩ := b1
  have I6 := I0.call J5 (tm_sub (by decide)) (Or.inl rfl)
  have t12 := J5.up h_o0
  have E13 : rE M0 M2 o0 1 0 := yE0.trans f9 (by decide) (yR.2 5 _ _ rfl 44).1 (by decide) (by decide)
  have := f9.w
  obtain ⟨s14, e15⟩ : ∃ s9 : p_S, p_pro pb pn pa (p_op pb pn pa 1) ps = s9 := ⟨_, rfl⟩
  rw [e15] at f11
  have := f11.w
  have L4_16 : ∀ (k : Nat) (T_16 : tm_H) (M_16 : mj_M) (n_16 : Nat), tm_I tm_FT (tm_in w_TrustDeskModel_sum_q2_x) x9 T0 M0 n0 T_16 M_16 n_16 → T_16 o0 = some (0, 13, 0) → (rv M_16 o0 19 = 0 → rv M_16 o0 22 = rv M0 o0 22) → (rI M_16 o0) → (rE M0 M_16 o0 1 0) → (∃ s1 : p_S, pO M_16 o0 pb pn pa s1 ∧ p_lp pn (p_su1 pb pn pa (p_op pb pn pa 1)) s1 = p_sum pb pn pa (p_op pb pn pa 1) ps) → 5 * (401 - rv M_16 o0 16) - rv M_16 o0 19 < (k : Int) → mj_V g l kY_TrustDeskModel_sum (d + 11) 4 [(0, .ref o0)] [] M_16 n_16 0 0 (tm_Q tm_FT (tm_in w_TrustDeskModel_sum_q2_x) x9 T0 M0 n0 (fun r _ M => r = none ∧ rI M o0 ∧ (rE M0 M o0 1 0) ∧ (rv M o0 19 = 0 → rv M o0 22 = rv M0 o0 22) ∧ (pO M o0 pb pn pa (p_sum pb pn pa (p_op pb pn pa 1) ps)))) := by
    intro k16
    induction k16 with
    | zero =>
      intro T_16 M_16 n_16 I_16 h_q0_16 iv0_16 kKR_16 kKE_16 kKT9_16 hk16
      have := kKR_16.1 15 _ _ rfl
      have := kKR_16.1 16 _ _ rfl
      have := kKR_16.1 19 _ _ rfl
      exfalso; omega
    | succ k16 ih16 =>
      intro T_16 M_16 n_16 I_16 h_q0_16 iv0_16 kKR_16 kKE_16 kKT9_16 hk16
      have := kKE_16.f yS
      obtain ⟨s17, Z918, e19⟩ := kKT9_16
      have := Z918.w
      refine mv_aload_n d_TrustDeskModel_sum_4 rfl rfl ?_
      obtain ⟨_, b20, -⟩ := I_16.1 _ _ h_q0_16
      refine mv_callV (kc1 := 0) (ks1 := 0) (kc' := 0) (ks' := 0) (As := []) (st9 := [.ref o0]) d_TrustDeskModel_sum_5 lV_TrustDeskModel_230 b20 rfl (mj_enter (by decide) (Nat.le_of_ble_eq_true rfl) ?_) rfl (Nat.le_of_ble_eq_true rfl) (Nat.le_of_ble_eq_true rfl) (Nat.le_of_ble_eq_true rfl) (hst := rfl) (fun _ _ _ h => h)
      refine mv_aload_n d_TrustDeskModel_isWell_0 rfl rfl ?_
      obtain ⟨v22, q21⟩ := tm_atI I_16 h_q0_16 (k := 19) rfl
      refine tr_getK q21 d_TrustDeskModel_isWell_1 f_TrustDeskModel_224_13 ?_
      have := kKR_16.f (k := 19) q21 rfl
      have := tm_rv q21
      have := mz_hi v22
      refine mv_if_neZ (tgt := 11) (a := v22.toInt) d_TrustDeskModel_isWell_4 (by decide) rfl (fun b23 => ?_) (fun b23 => ?_)
      · refine mv_iconst (v := 0) d_TrustDeskModel_isWell_11 (by decide) ?_
        refine mv_iret d_TrustDeskModel_isWell_12 rfl (by decide) ?_
        refine mv_if_eq_t (tgt := 61) d_TrustDeskModel_sum_8 (by decide) (by decide) ?_
        exact mv_vret d_TrustDeskModel_sum_61 rfl ⟨_, I_16, rfl, kKR_16, kKE_16, (by have := kKR_16.1 15 _ _ rfl; have := kKR_16.1 16 _ _ rfl; have := kKR_16.1 19 _ _ rfl; have := kKE_16.f yS; omega), (by first | (have hX := e19.symm.trans (p_lp_stop (show (p_su1 pb pn pa (p_op pb pn pa 1)) s17 = s17 from if_neg (fun h9 => by omega))); rw [show p_sum pb pn pa (p_op pb pn pa 1) ps = s17 from (by exact hX)]; exact Z918) | (exfalso; have := kKR_16.1 15 _ _ rfl; have := kKR_16.1 16 _ _ rfl; have := kKR_16.1 19 _ _ rfl; have := kKE_16.f yS; omega))⟩
      · refine mv_iconst (v := 1) d_TrustDeskModel_isWell_7 (by decide) ?_
        refine mv_goto (tgt := 12) d_TrustDeskModel_isWell_8 (by decide) ?_
        refine mv_iret d_TrustDeskModel_isWell_12 rfl (by decide) ?_
        refine mv_if_eq_f (tgt := 61) d_TrustDeskModel_sum_8 (by decide) (by decide) ?_
        refine mv_aload_n d_TrustDeskModel_sum_11 rfl rfl ?_
        refine mv_bipush (v := 43) d_TrustDeskModel_sum_12 (by decide) ?_
        obtain ⟨_, b24, -⟩ := I_16.1 _ _ h_q0_16
        refine mv_callV (kc1 := 0) (ks1 := 0) (kc' := 0) (ks' := 0) (As := [.int 43]) (st9 := [.int 43, .ref o0]) d_TrustDeskModel_sum_14 lV_TrustDeskModel_234 b24 rfl (mj_enter (by decide) (Nat.le_of_ble_eq_true rfl) ?_) rfl (Nat.le_of_ble_eq_true rfl) (Nat.le_of_ble_eq_true rfl) (Nat.le_of_ble_eq_true rfl) (hst := rfl) (fun _ _ _ h => h)
        refine mv_aload_n d_TrustDeskModel_isSign_0 rfl rfl ?_
        obtain ⟨v26, q25⟩ := tm_atI I_16 h_q0_16 (k := 17) rfl
        refine tr_getK q25 d_TrustDeskModel_isSign_1 f_TrustDeskModel_198_13 ?_
        have := tm_rv q25
        refine mv_iconst (v := 4) d_TrustDeskModel_isSign_4 (by decide) ?_
        have := mz_hi v26
        refine mv_icmp_neZ (tgt := 20) (a := v26.toInt) (b := 4) d_TrustDeskModel_isSign_5 (by decide) rfl (by decide) (fun b27 => ?_) (fun b27 => ?_)
        · refine mv_iconst (v := 0) d_TrustDeskModel_isSign_20 (by decide) ?_
          refine mv_iret d_TrustDeskModel_isSign_21 rfl (by decide) ?_
          refine mv_if_ne_f (tgt := 29) d_TrustDeskModel_sum_17 (by decide) (by decide) ?_
          refine mv_aload_n d_TrustDeskModel_sum_20 rfl rfl ?_
          refine mv_bipush (v := 45) d_TrustDeskModel_sum_21 (by decide) ?_
          obtain ⟨_, b28, -⟩ := I_16.1 _ _ h_q0_16
          refine mv_callV (kc1 := 0) (ks1 := 0) (kc' := 0) (ks' := 0) (As := [.int 45]) (st9 := [.int 45, .ref o0]) d_TrustDeskModel_sum_23 lV_TrustDeskModel_234 b28 rfl (mj_enter (by decide) (Nat.le_of_ble_eq_true rfl) ?_) rfl (Nat.le_of_ble_eq_true rfl) (Nat.le_of_ble_eq_true rfl) (Nat.le_of_ble_eq_true rfl) (hst := rfl) (fun _ _ _ h => h)
          refine mv_aload_n d_TrustDeskModel_isSign_0 rfl rfl ?_
          refine tr_getK (k := 17) q25 d_TrustDeskModel_isSign_1 f_TrustDeskModel_198_13 ?_
          refine mv_iconst (v := 4) d_TrustDeskModel_isSign_4 (by decide) ?_
          have := mz_hi v26
          refine mv_icmp_neZ (tgt := 20) (a := v26.toInt) (b := 4) d_TrustDeskModel_isSign_5 (by decide) rfl (by decide) (fun b29 => ?_) (fun b29 => absurd b29 (by omega))
          refine mv_iconst (v := 0) d_TrustDeskModel_isSign_20 (by decide) ?_
          refine mv_iret d_TrustDeskModel_isSign_21 rfl (by decide) ?_
          refine mv_if_eq_t (tgt := 61) d_TrustDeskModel_sum_26 (by decide) (by decide) ?_
          exact mv_vret d_TrustDeskModel_sum_61 rfl ⟨_, I_16, rfl, kKR_16, kKE_16, (by have := kKR_16.1 15 _ _ rfl; have := kKR_16.1 16 _ _ rfl; have := kKR_16.1 19 _ _ rfl; have := kKE_16.f yS; omega), (by first | (have := Z918.n4 (by omega) (by omega); have hX := e19.symm.trans (p_lp_stop (show (p_su1 pb pn pa (p_op pb pn pa 1)) s17 = s17 from if_neg (fun h9 => by omega))); rw [show p_sum pb pn pa (p_op pb pn pa 1) ps = s17 from (by exact hX)]; exact Z918) | (exfalso; have := kKR_16.1 15 _ _ rfl; have := kKR_16.1 16 _ _ rfl; have := kKR_16.1 19 _ _ rfl; have := kKE_16.f yS; omega))⟩
        · refine mv_aload_n d_TrustDeskModel_isSign_8 rfl rfl ?_
          obtain ⟨v31, q30⟩ := tm_atI I_16 h_q0_16 (k := 18) rfl
          refine tr_getK q30 d_TrustDeskModel_isSign_9 f_TrustDeskModel_201_13 ?_
          have := kKR_16.f (k := 18) q30 rfl
          have := tm_rv q30
          refine mv_iload_n d_TrustDeskModel_isSign_12 rfl rfl ?_
          have := mz_hi v31
          refine mv_icmp_neZ (tgt := 20) (a := v31.toInt) (b := 43) d_TrustDeskModel_isSign_13 (by decide) rfl (by decide) (fun b32 => ?_) (fun b32 => ?_)
          · refine mv_iconst (v := 0) d_TrustDeskModel_isSign_20 (by decide) ?_
            refine mv_iret d_TrustDeskModel_isSign_21 rfl (by decide) ?_
            refine mv_if_ne_f (tgt := 29) d_TrustDeskModel_sum_17 (by decide) (by decide) ?_
            refine mv_aload_n d_TrustDeskModel_sum_20 rfl rfl ?_
            refine mv_bipush (v := 45) d_TrustDeskModel_sum_21 (by decide) ?_
            obtain ⟨_, b33, -⟩ := I_16.1 _ _ h_q0_16
            refine mv_callV (kc1 := 0) (ks1 := 0) (kc' := 0) (ks' := 0) (As := [.int 45]) (st9 := [.int 45, .ref o0]) d_TrustDeskModel_sum_23 lV_TrustDeskModel_234 b33 rfl (mj_enter (by decide) (Nat.le_of_ble_eq_true rfl) ?_) rfl (Nat.le_of_ble_eq_true rfl) (Nat.le_of_ble_eq_true rfl) (Nat.le_of_ble_eq_true rfl) (hst := rfl) (fun _ _ _ h => h)
            refine mv_aload_n d_TrustDeskModel_isSign_0 rfl rfl ?_
            refine tr_getK (k := 17) q25 d_TrustDeskModel_isSign_1 f_TrustDeskModel_198_13 ?_
            refine mv_iconst (v := 4) d_TrustDeskModel_isSign_4 (by decide) ?_
            have := mz_hi v26
            refine mv_icmp_neZ (tgt := 20) (a := v26.toInt) (b := 4) d_TrustDeskModel_isSign_5 (by decide) rfl (by decide) (fun b34 => absurd b34 (by omega)) (fun b34 => ?_)
            refine mv_aload_n d_TrustDeskModel_isSign_8 rfl rfl ?_
            refine tr_getK (k := 18) q30 d_TrustDeskModel_isSign_9 f_TrustDeskModel_201_13 ?_
            refine mv_iload_n d_TrustDeskModel_isSign_12 rfl rfl ?_
            have := mz_hi v31
            refine mv_icmp_neZ (tgt := 20) (a := v31.toInt) (b := 45) d_TrustDeskModel_isSign_13 (by decide) rfl (by decide) (fun b35 => ?_) (fun b35 => ?_)
            · refine mv_iconst (v := 0) d_TrustDeskModel_isSign_20 (by decide) ?_
              refine mv_iret d_TrustDeskModel_isSign_21 rfl (by decide) ?_
              refine mv_if_eq_t (tgt := 61) d_TrustDeskModel_sum_26 (by decide) (by decide) ?_
              exact mv_vret d_TrustDeskModel_sum_61 rfl ⟨_, I_16, rfl, kKR_16, kKE_16, (by have := kKR_16.1 15 _ _ rfl; have := kKR_16.1 16 _ _ rfl; have := kKR_16.1 19 _ _ rfl; have := kKE_16.f yS; omega), (by first | (have := Z918.s4 (by omega) (by omega); have hX := e19.symm.trans (p_lp_stop (show (p_su1 pb pn pa (p_op pb pn pa 1)) s17 = s17 from if_neg (fun h9 => by omega))); rw [show p_sum pb pn pa (p_op pb pn pa 1) ps = s17 from (by exact hX)]; exact Z918) | (exfalso; have := kKR_16.1 15 _ _ rfl; have := kKR_16.1 16 _ _ rfl; have := kKR_16.1 19 _ _ rfl; have := kKE_16.f yS; omega))⟩
            · refine mv_iconst (v := 1) d_TrustDeskModel_isSign_16 (by decide) ?_
              refine mv_goto (tgt := 21) d_TrustDeskModel_isSign_17 (by decide) ?_
              refine mv_iret d_TrustDeskModel_isSign_21 rfl (by decide) ?_
              refine mv_if_eq_f (tgt := 61) d_TrustDeskModel_sum_26 (by decide) (by decide) ?_
              refine mv_aload_n d_TrustDeskModel_sum_29 rfl rfl ?_
              refine mv_bipush (v := 43) d_TrustDeskModel_sum_30 (by decide) ?_
              obtain ⟨_, b36, -⟩ := I_16.1 _ _ h_q0_16
              refine mv_callV (kc1 := 0) (ks1 := 0) (kc' := 0) (ks' := 0) (As := [.int 43]) (st9 := [.int 43, .ref o0]) d_TrustDeskModel_sum_32 lV_TrustDeskModel_234 b36 rfl (mj_enter (by decide) (Nat.le_of_ble_eq_true rfl) ?_) rfl (Nat.le_of_ble_eq_true rfl) (Nat.le_of_ble_eq_true rfl) (Nat.le_of_ble_eq_true rfl) (hst := rfl) (fun _ _ _ h => h)
              refine mv_aload_n d_TrustDeskModel_isSign_0 rfl rfl ?_
              refine tr_getK (k := 17) q25 d_TrustDeskModel_isSign_1 f_TrustDeskModel_198_13 ?_
              refine mv_iconst (v := 4) d_TrustDeskModel_isSign_4 (by decide) ?_
              have := mz_hi v26
              refine mv_icmp_neZ (tgt := 20) (a := v26.toInt) (b := 4) d_TrustDeskModel_isSign_5 (by decide) rfl (by decide) (fun b37 => absurd b37 (by omega)) (fun b37 => ?_)
              refine mv_aload_n d_TrustDeskModel_isSign_8 rfl rfl ?_
              refine tr_getK (k := 18) q30 d_TrustDeskModel_isSign_9 f_TrustDeskModel_201_13 ?_
              refine mv_iload_n d_TrustDeskModel_isSign_12 rfl rfl ?_
              have := mz_hi v31
              refine mv_icmp_neZ (tgt := 20) (a := v31.toInt) (b := 43) d_TrustDeskModel_isSign_13 (by decide) rfl (by decide) (fun b38 => ?_) (fun b38 => absurd b38 (by omega))
              refine mv_iconst (v := 0) d_TrustDeskModel_isSign_20 (by decide) ?_
              refine mv_iret d_TrustDeskModel_isSign_21 rfl (by decide) ?_
              refine mv_istore_n (lv' := [(1, .int 0), (0, .ref o0)]) d_TrustDeskModel_sum_35 rfl (by decide) rfl ?_
              refine mv_aload_n d_TrustDeskModel_sum_36 rfl rfl ?_
              obtain ⟨_, b45, -⟩ := I_16.1 _ _ h_q0_16
              refine mv_callV (kc' := 0) (ks' := 0) (As := []) (st9 := [.ref o0]) d_TrustDeskModel_sum_37 lV_TrustDeskModel_237 b45 rfl (tc_TrustDeskModel_next_x (d := (d + 9)) (x9 := x9) (o0 := o0) h_q0_16 kKR_16 Z918.p I_16.start) rfl (Nat.le_of_ble_eq_true rfl) (Nat.le_of_ble_eq_true rfl) (Nat.le_of_ble_eq_true rfl) (hst := rfl) (fun b39r M40 n41 b39 => ?_)
              obtain ⟨T42, J43, rfl, R46, f47, f48, f49⟩ := b39
              have I44 := I_16.call J43 (tm_sub (by decide)) (Or.inl rfl)
              have t50 := J43.up h_q0_16
              have z51 := (rv_c I_16 J43 (I_16.up h_o0) (k := 19) rfl)
              have z52 := (rv_c I_16 J43 (I_16.up h_o0) (k := 22) rfl)
              have h54 : rv M_16 o0 16 + 1 ≤ rv M_16 o0 15 := (by have := kKR_16.1 15 _ _ rfl; have := kKR_16.1 16 _ _ rfl; have := kKR_16.1 19 _ _ rfl; have := kKE_16.f yS; omega)
              have E53 : rE M0 M40 o0 1 1 := kKE_16.next f47 f48 (rv_c I_16 J43 (I_16.up h_o0) (k := 19) rfl) (rE_ha I_16 J43 (I_16.up h_o0) (by decide)) (e := 1) h54 (by decide)
              obtain ⟨s55, e56⟩ : ∃ s9 : p_S, p_nx s17 = s9 := ⟨_, rfl⟩
              rw [e56] at f49
              have := f49.w
              have q57 := J43.keep h_q0_16 (by decide) q21
              refine mv_aload_n d_TrustDeskModel_sum_40 rfl rfl ?_
              obtain ⟨_, b64, -⟩ := I44.1 _ _ t50
              refine mv_callV (kc' := 0) (ks' := 0) (As := []) (st9 := [.ref o0]) d_TrustDeskModel_sum_41 lV_TrustDeskModel_297 b64 rfl (tc_TrustDeskModel_product_q2_x (d := d) (x9 := x9) (o0 := o0) t50 R46 E53.1 (by have := R46.1 15 _ _ rfl; have := R46.1 16 _ _ rfl; have := R46.1 19 _ _ rfl; have := E53.f yS; omega) (by have := R46.1 15 _ _ rfl; have := R46.1 16 _ _ rfl; have := R46.1 19 _ _ rfl; have := E53.f yS; omega) f49 I44.start) rfl (Nat.le_of_ble_eq_true rfl) (Nat.le_of_ble_eq_true rfl) (Nat.le_of_ble_eq_true rfl) (hst := rfl) (fun b58r M59 n60 b58 => ?_)
              obtain ⟨T61, J62, rfl, R65, f66, f67, f68⟩ := b58
              have I63 := I44.call J62 (tm_sub (by decide)) (Or.inl rfl)
              have t69 := J62.up t50
              have E70 : rE M0 M59 o0 2 1 := E53.trans f66 (by decide) (yR.2 5 _ _ rfl 44).1 (by decide) (by decide)
              have := f66.w
              obtain ⟨s71, e72⟩ : ∃ s9 : p_S, p_pro pb pn pa (p_op pb pn pa 1) s55 = s9 := ⟨_, rfl⟩
              rw [e72] at f68
              have := f68.w
              refine mv_aload_n d_TrustDeskModel_sum_44 rfl rfl ?_
              refine mv_iload_n d_TrustDeskModel_sum_45 rfl rfl ?_
              refine mv_if_eq_t (tgt := 53) d_TrustDeskModel_sum_46 (by decide) (by decide) ?_
              refine mv_bipush (v := (-2)) d_TrustDeskModel_sum_53 (by decide) ?_
              obtain ⟨_, b79, -⟩ := I63.1 _ _ t69
              have : ((-2) : Int32).toInt = (-2) := by decide
              refine mv_callV (kc' := 0) (ks' := 0) (As := [.int (-2)]) (st9 := [.int (-2), .ref o0]) d_TrustDeskModel_sum_55 lV_TrustDeskModel_279 b79 rfl (tc_TrustDeskModel_emits_x (d := (d + 9)) (x9 := x9) (o0 := o0) (x1 := (-2)) t69 R65 (by have := R65.1 15 _ _ rfl; have := R65.1 16 _ _ rfl; have := R65.1 19 _ _ rfl; have := E70.f yS; omega) (by decide) I63.start) rfl (Nat.le_of_ble_eq_true rfl) (Nat.le_of_ble_eq_true rfl) (Nat.le_of_ble_eq_true rfl) (hst := rfl) (fun b73r M74 n75 b73 => ?_)
              obtain ⟨T76, J77, rfl, R80, f81⟩ := b73
              have I78 := I63.call J77 (tm_sub (by decide)) (Or.inl rfl)
              have t82 := J77.up t69
              have z83 := (rv_c I63 J77 (I63.up h_o0) (k := 16) rfl)
              have z84 := (rv_c I63 J77 (I63.up h_o0) (k := 17) rfl)
              have z85 := (rv_c I63 J77 (I63.up h_o0) (k := 19) rfl)
              have z86 := (rv_c I63 J77 (I63.up h_o0) (k := 22) rfl)
              have E87 : rE M0 M74 o0 1 0 := E70.emit f81 (rE_hv I63 J77 (I63.up h_o0) 15 19 (by decide)) (yR.2 5 _ _ rfl 44).1 (by decide) (Or.inr (Or.inr ⟨by decide, by decide, by decide, by decide⟩)) (by decide)
              have Z988 : pO M74 o0 pb pn pa s71 := f68.same (rE_hv I63 J77 (I63.up h_o0) 14 20 (by decide)) (rv_c I63 J77 (I63.up h_o0) (k := 23) rfl) (ra_call I63 J77 (I63.up h_o0) (k := 13) rfl rfl rfl)
              refine mv_goto (tgt := 4) d_TrustDeskModel_sum_58 (by decide) ?_
              have T89 : ∃ s1 : p_S, pO M74 o0 pb pn pa s1 ∧ p_lp pn (p_su1 pb pn pa (p_op pb pn pa 1)) s1 = p_sum pb pn pa (p_op pb pn pa 1) ps := ⟨s71, Z988, (by have st : (p_su1 pb pn pa (p_op pb pn pa 1)) s17 = s71 := (by have := Z918.s4 (by omega) (by omega); rw [show (p_su1 pb pn pa (p_op pb pn pa 1)) s17 = p_pro pb pn pa (p_op pb pn pa 1) (p_nx s17) from if_pos ⟨by omega, by omega⟩]; simp only [e56, e72]); rw [← st, p_P.go (p_su1_P (p_op_M _)) s17]; exact e19)⟩
              refine mv_locals (lv' := [(0, .ref o0)]) (by intro q hq; simp only [List.mem_cons, List.not_mem_nil, or_false] at hq; rcases hq with rfl <;> rfl) ?_
              exact (ih16 T76 M74 n75 I78 t82 (by have := R80.1 15 _ _ rfl; have := R80.1 16 _ _ rfl; have := R80.1 19 _ _ rfl; have := E87.f yS; first | omega | decide | exact fun h9 => absurd (by decide) h9) R80 E87 T89 (by have := R80.1 15 _ _ rfl; have := R80.1 16 _ _ rfl; have := R80.1 19 _ _ rfl; have := E87.f yS; omega))
          · refine mv_iconst (v := 1) d_TrustDeskModel_isSign_16 (by decide) ?_
            refine mv_goto (tgt := 21) d_TrustDeskModel_isSign_17 (by decide) ?_
            refine mv_iret d_TrustDeskModel_isSign_21 rfl (by decide) ?_
            refine mv_if_ne_t (tgt := 29) d_TrustDeskModel_sum_17 (by decide) (by decide) ?_
            refine mv_aload_n d_TrustDeskModel_sum_29 rfl rfl ?_
            refine mv_bipush (v := 43) d_TrustDeskModel_sum_30 (by decide) ?_
            obtain ⟨_, b90, -⟩ := I_16.1 _ _ h_q0_16
            refine mv_callV (kc1 := 0) (ks1 := 0) (kc' := 0) (ks' := 0) (As := [.int 43]) (st9 := [.int 43, .ref o0]) d_TrustDeskModel_sum_32 lV_TrustDeskModel_234 b90 rfl (mj_enter (by decide) (Nat.le_of_ble_eq_true rfl) ?_) rfl (Nat.le_of_ble_eq_true rfl) (Nat.le_of_ble_eq_true rfl) (Nat.le_of_ble_eq_true rfl) (hst := rfl) (fun _ _ _ h => h)
            refine mv_aload_n d_TrustDeskModel_isSign_0 rfl rfl ?_
            refine tr_getK (k := 17) q25 d_TrustDeskModel_isSign_1 f_TrustDeskModel_198_13 ?_
            refine mv_iconst (v := 4) d_TrustDeskModel_isSign_4 (by decide) ?_
            have := mz_hi v26
            refine mv_icmp_neZ (tgt := 20) (a := v26.toInt) (b := 4) d_TrustDeskModel_isSign_5 (by decide) rfl (by decide) (fun b91 => absurd b91 (by omega)) (fun b91 => ?_)
            refine mv_aload_n d_TrustDeskModel_isSign_8 rfl rfl ?_
            refine tr_getK (k := 18) q30 d_TrustDeskModel_isSign_9 f_TrustDeskModel_201_13 ?_
            refine mv_iload_n d_TrustDeskModel_isSign_12 rfl rfl ?_
            have := mz_hi v31
            refine mv_icmp_neZ (tgt := 20) (a := v31.toInt) (b := 43) d_TrustDeskModel_isSign_13 (by decide) rfl (by decide) (fun b92 => absurd b92 (by omega)) (fun b92 => ?_)
            refine mv_iconst (v := 1) d_TrustDeskModel_isSign_16 (by decide) ?_
            refine mv_goto (tgt := 21) d_TrustDeskModel_isSign_17 (by decide) ?_
            refine mv_iret d_TrustDeskModel_isSign_21 rfl (by decide) ?_
            refine mv_istore_n (lv' := [(1, .int 1), (0, .ref o0)]) d_TrustDeskModel_sum_35 rfl (by decide) rfl ?_
            refine mv_aload_n d_TrustDeskModel_sum_36 rfl rfl ?_
            obtain ⟨_, b99, -⟩ := I_16.1 _ _ h_q0_16
            refine mv_callV (kc' := 0) (ks' := 0) (As := []) (st9 := [.ref o0]) d_TrustDeskModel_sum_37 lV_TrustDeskModel_237 b99 rfl (tc_TrustDeskModel_next_x (d := (d + 9)) (x9 := x9) (o0 := o0) h_q0_16 kKR_16 Z918.p I_16.start) rfl (Nat.le_of_ble_eq_true rfl) (Nat.le_of_ble_eq_true rfl) (Nat.le_of_ble_eq_true rfl) (hst := rfl) (fun b93r M94 n95 b93 => ?_)
            obtain ⟨T96, J97, rfl, R100, f101, f102, f103⟩ := b93
            have I98 := I_16.call J97 (tm_sub (by decide)) (Or.inl rfl)
            have t104 := J97.up h_q0_16
            have z105 := (rv_c I_16 J97 (I_16.up h_o0) (k := 19) rfl)
            have z106 := (rv_c I_16 J97 (I_16.up h_o0) (k := 22) rfl)
            have h108 : rv M_16 o0 16 + 1 ≤ rv M_16 o0 15 := (by have := kKR_16.1 15 _ _ rfl; have := kKR_16.1 16 _ _ rfl; have := kKR_16.1 19 _ _ rfl; have := kKE_16.f yS; omega)
            have E107 : rE M0 M94 o0 1 1 := kKE_16.next f101 f102 (rv_c I_16 J97 (I_16.up h_o0) (k := 19) rfl) (rE_ha I_16 J97 (I_16.up h_o0) (by decide)) (e := 1) h108 (by decide)
            obtain ⟨s109, e110⟩ : ∃ s9 : p_S, p_nx s17 = s9 := ⟨_, rfl⟩
            rw [e110] at f103
            have := f103.w
            have q111 := J97.keep h_q0_16 (by decide) q21
            refine mv_aload_n d_TrustDeskModel_sum_40 rfl rfl ?_
            obtain ⟨_, b118, -⟩ := I98.1 _ _ t104
            refine mv_callV (kc' := 0) (ks' := 0) (As := []) (st9 := [.ref o0]) d_TrustDeskModel_sum_41 lV_TrustDeskModel_297 b118 rfl (tc_TrustDeskModel_product_q2_x (d := d) (x9 := x9) (o0 := o0) t104 R100 E107.1 (by have := R100.1 15 _ _ rfl; have := R100.1 16 _ _ rfl; have := R100.1 19 _ _ rfl; have := E107.f yS; omega) (by have := R100.1 15 _ _ rfl; have := R100.1 16 _ _ rfl; have := R100.1 19 _ _ rfl; have := E107.f yS; omega) f103 I98.start) rfl (Nat.le_of_ble_eq_true rfl) (Nat.le_of_ble_eq_true rfl) (Nat.le_of_ble_eq_true rfl) (hst := rfl) (fun b112r M113 n114 b112 => ?_)
            obtain ⟨T115, J116, rfl, R119, f120, f121, f122⟩ := b112
            have I117 := I98.call J116 (tm_sub (by decide)) (Or.inl rfl)
            have t123 := J116.up t104
            have E124 : rE M0 M113 o0 2 1 := E107.trans f120 (by decide) (yR.2 5 _ _ rfl 44).1 (by decide) (by decide)
            have := f120.w
            obtain ⟨s125, e126⟩ : ∃ s9 : p_S, p_pro pb pn pa (p_op pb pn pa 1) s109 = s9 := ⟨_, rfl⟩
            rw [e126] at f122
            have := f122.w
            refine mv_aload_n d_TrustDeskModel_sum_44 rfl rfl ?_
            refine mv_iload_n d_TrustDeskModel_sum_45 rfl rfl ?_
            refine mv_if_eq_f (tgt := 53) d_TrustDeskModel_sum_46 (by decide) (by decide) ?_
            refine mv_iconst (v := (-1)) d_TrustDeskModel_sum_49 (by decide) ?_
            refine mv_goto (tgt := 55) d_TrustDeskModel_sum_50 (by decide) ?_
            obtain ⟨_, b133, -⟩ := I117.1 _ _ t123
            have : ((-1) : Int32).toInt = (-1) := by decide
            refine mv_callV (kc' := 0) (ks' := 0) (As := [.int (-1)]) (st9 := [.int (-1), .ref o0]) d_TrustDeskModel_sum_55 lV_TrustDeskModel_279 b133 rfl (tc_TrustDeskModel_emits_x (d := (d + 9)) (x9 := x9) (o0 := o0) (x1 := (-1)) t123 R119 (by have := R119.1 15 _ _ rfl; have := R119.1 16 _ _ rfl; have := R119.1 19 _ _ rfl; have := E124.f yS; omega) (by decide) I117.start) rfl (Nat.le_of_ble_eq_true rfl) (Nat.le_of_ble_eq_true rfl) (Nat.le_of_ble_eq_true rfl) (hst := rfl) (fun b127r M128 n129 b127 => ?_)
            obtain ⟨T130, J131, rfl, R134, f135⟩ := b127
            have I132 := I117.call J131 (tm_sub (by decide)) (Or.inl rfl)
            have t136 := J131.up t123
            have z137 := (rv_c I117 J131 (I117.up h_o0) (k := 16) rfl)
            have z138 := (rv_c I117 J131 (I117.up h_o0) (k := 17) rfl)
            have z139 := (rv_c I117 J131 (I117.up h_o0) (k := 19) rfl)
            have z140 := (rv_c I117 J131 (I117.up h_o0) (k := 22) rfl)
            have E141 : rE M0 M128 o0 1 0 := E124.emit f135 (rE_hv I117 J131 (I117.up h_o0) 15 19 (by decide)) (yR.2 5 _ _ rfl 44).1 (by decide) (Or.inr (Or.inr ⟨by decide, by decide, by decide, by decide⟩)) (by decide)
            have Z9142 : pO M128 o0 pb pn pa s125 := f122.same (rE_hv I117 J131 (I117.up h_o0) 14 20 (by decide)) (rv_c I117 J131 (I117.up h_o0) (k := 23) rfl) (ra_call I117 J131 (I117.up h_o0) (k := 13) rfl rfl rfl)
            refine mv_goto (tgt := 4) d_TrustDeskModel_sum_58 (by decide) ?_
            have T143 : ∃ s1 : p_S, pO M128 o0 pb pn pa s1 ∧ p_lp pn (p_su1 pb pn pa (p_op pb pn pa 1)) s1 = p_sum pb pn pa (p_op pb pn pa 1) ps := ⟨s125, Z9142, (by have st : (p_su1 pb pn pa (p_op pb pn pa 1)) s17 = s125 := (by have := Z918.s4 (by omega) (by omega); rw [show (p_su1 pb pn pa (p_op pb pn pa 1)) s17 = p_pro pb pn pa (p_op pb pn pa 1) (p_nx s17) from if_pos ⟨by omega, by omega⟩]; simp only [e110, e126]); rw [← st, p_P.go (p_su1_P (p_op_M _)) s17]; exact e19)⟩
            refine mv_locals (lv' := [(0, .ref o0)]) (by intro q hq; simp only [List.mem_cons, List.not_mem_nil, or_false] at hq; rcases hq with rfl <;> rfl) ?_
            exact (ih16 T130 M128 n129 I132 t136 (by have := R134.1 15 _ _ rfl; have := R134.1 16 _ _ rfl; have := R134.1 19 _ _ rfl; have := E141.f yS; first | omega | decide | exact fun h9 => absurd (by decide) h9) R134 E141 T143 (by have := R134.1 15 _ _ rfl; have := R134.1 16 _ _ rfl; have := R134.1 19 _ _ rfl; have := E141.f yS; omega))
  have T144 : ∃ s1 : p_S, pO M2 o0 pb pn pa s1 ∧ p_lp pn (p_su1 pb pn pa (p_op pb pn pa 1)) s1 = p_sum pb pn pa (p_op pb pn pa 1) ps := ⟨s14, f11, (by rw [← e15]; rfl)⟩
  exact mv_less (Nat.zero_le _) (Nat.zero_le _) (L4_16 4294967296 T4 M2 n3 I6 t12 (by have := R8.1 15 _ _ rfl; have := R8.1 16 _ _ rfl; have := R8.1 19 _ _ rfl; have := E13.f yS; first | omega | decide | exact fun h9 => absurd (by decide) h9) R8 E13 T144 (by have := R8.1 15 _ _ rfl; have := R8.1 16 _ _ rfl; have := R8.1 19 _ _ rfl; have := E13.f yS; omega))
def w_TrustDeskModel_factor_q3_x : List Nat := [1315, 1316, 1317, 1318, 1319, 1320, 1322, 20004, 20005]
set_option maxHeartbeats 100000000 in theorem tc_TrustDeskModel_factor_q3_x {g : mj_G} {l : Launch} {d : Nat} {T0 : tm_H} {M0 : mj_M} {n0 x9 : Nat} {o0 : Nat} (h_o0 : T0 o0 = some (0, 13, 0)) (yR : rI M0 o0) (yT : rT M0 o0) (yS : rv M0 o0 19 = 0 → ra M0 o0 5 44 ≤ rv M0 o0 16) (yL : rv M0 o0 19 ≠ 0 ∨ (2 ≤ rv M0 o0 22 ∧ rv M0 o0 22 ≤ 2)) {pb : Nat → Int} {pn : Nat} {pa : Int} {ps : p_S} (yO : pO M0 o0 pb pn pa ps) (I0 : tm_I tm_FT (tm_in w_TrustDeskModel_factor_q3_x) x9 T0 M0 n0 T0 M0 n0) : mj_Met g l kY_TrustDeskModel_factor (d + 12) [.ref o0] M0 n0 0 0 (tm_Q tm_FT (tm_in w_TrustDeskModel_factor_q3_x) x9 T0 M0 n0 (fun r _ M => r = none ∧ rI M o0 ∧ (rE M0 M o0 1 0) ∧ (rv M o0 19 = 0 → rv M o0 22 = rv M0 o0 22) ∧ (pO M o0 pb pn pa (p_fac pb pn pa (p_op pb pn pa 2) ps)))) := by
  refine mj_enter (by decide) (Nat.le_of_ble_eq_true rfl) ?_
  have yE0 := rE.rf yT
  have := yO.w
  refine mv_aload_n d_TrustDeskModel_factor_0 rfl rfl ?_
  obtain ⟨_, b1, -⟩ := I0.1 _ _ h_o0
  refine mv_callV (kc1 := 0) (ks1 := 0) (kc' := 0) (ks' := 0) (As := []) (st9 := [.ref o0]) d_TrustDeskModel_factor_1 lV_TrustDeskModel_230 b1 rfl (mj_enter (by decide) (Nat.le_of_ble_eq_true rfl) ?_) rfl (Nat.le_of_ble_eq_true rfl) (Nat.le_of_ble_eq_true rfl) (Nat.le_of_ble_eq_true rfl) (hst := rfl) (fun _ _ _ h => h)
  refine mv_aload_n d_TrustDeskModel_isWell_0 rfl rfl ?_
  obtain ⟨v3, q2⟩ := tm_atI I0 h_o0 (k := 19) rfl
  refine tr_getK q2 d_TrustDeskModel_isWell_1 f_TrustDeskModel_224_13 ?_
  have := yR.f (k := 19) q2 rfl
  have := tm_rv q2
  have := mz_hi v3
  refine mv_if_neZ (tgt := 11) (a := v3.toInt) d_TrustDeskModel_isWell_4 (by decide) rfl (fun b4 => ?_) (fun b4 => ?_)
  · refine mv_iconst (v := 0) d_TrustDeskModel_isWell_11 (by decide) ?_
    refine mv_iret d_TrustDeskModel_isWell_12 rfl (by decide) ?_
    refine mv_if_ne_f (tgt := 8) d_TrustDeskModel_factor_4 (by decide) (by decide) ?_
    exact mv_vret d_TrustDeskModel_factor_7 rfl ⟨_, I0, rfl, yR, yE0.vac (by have := yR.1 15 _ _ rfl; have := yR.1 16 _ _ rfl; have := yR.1 19 _ _ rfl; have := yE0.f yS; omega) 1 0, (by have := yR.1 15 _ _ rfl; have := yR.1 16 _ _ rfl; have := yR.1 19 _ _ rfl; have := yE0.f yS; omega), (by first | (rw [show p_fac pb pn pa (p_op pb pn pa 2) ps = ps from (by have hop : (p_op pb pn pa 2) ps = p_sg pb pn 41 (p_sum pb pn pa (p_op pb pn pa 1) (p_nx ps)) := rfl; unfold p_fac; (try simp only [hop]); skip; ((repeat' (first | (with_reducible rfl) | split)) <;> (exfalso; omega)))]; exact yO) | (exfalso; have := yR.1 15 _ _ rfl; have := yR.1 16 _ _ rfl; have := yR.1 19 _ _ rfl; have := yE0.f yS; omega))⟩
  · refine mv_iconst (v := 1) d_TrustDeskModel_isWell_7 (by decide) ?_
    refine mv_goto (tgt := 12) d_TrustDeskModel_isWell_8 (by decide) ?_
    refine mv_iret d_TrustDeskModel_isWell_12 rfl (by decide) ?_
    refine mv_if_ne_t (tgt := 8) d_TrustDeskModel_factor_4 (by decide) (by decide) ?_
    refine mv_aload_n d_TrustDeskModel_factor_8 rfl rfl ?_
    obtain ⟨v6, q5⟩ := tm_atI I0 h_o0 (k := 17) rfl
    refine tr_getK q5 d_TrustDeskModel_factor_9 f_TrustDeskModel_198_13 ?_
    have := tm_rv q5
    refine mv_iconst (v := 2) d_TrustDeskModel_factor_12 (by decide) ?_
    have := mz_hi v6
    refine mv_icmp_neZ (tgt := 31) (a := v6.toInt) (b := 2) d_TrustDeskModel_factor_13 (by decide) rfl (by decide) (fun b7 => ?_) (fun b7 => ?_)
    · refine mv_aload_n d_TrustDeskModel_factor_31 rfl rfl ?_
      refine tr_getK (k := 17) q5 d_TrustDeskModel_factor_32 f_TrustDeskModel_198_13 ?_
      refine mv_iconst (v := 3) d_TrustDeskModel_factor_35 (by decide) ?_
      have := mz_hi v6
      refine mv_icmp_neZ (tgt := 77) (a := v6.toInt) (b := 3) d_TrustDeskModel_factor_36 (by decide) rfl (by decide) (fun b8 => ?_) (fun b8 => ?_)
      · refine mv_aload_n d_TrustDeskModel_factor_77 rfl rfl ?_
        refine mv_bipush (v := 40) d_TrustDeskModel_factor_78 (by decide) ?_
        obtain ⟨_, b9, -⟩ := I0.1 _ _ h_o0
        refine mv_callV (kc1 := 0) (ks1 := 0) (kc' := 0) (ks' := 0) (As := [.int 40]) (st9 := [.int 40, .ref o0]) d_TrustDeskModel_factor_80 lV_TrustDeskModel_234 b9 rfl (mj_enter (by decide) (Nat.le_of_ble_eq_true rfl) ?_) rfl (Nat.le_of_ble_eq_true rfl) (Nat.le_of_ble_eq_true rfl) (Nat.le_of_ble_eq_true rfl) (hst := rfl) (fun _ _ _ h => h)
        refine mv_aload_n d_TrustDeskModel_isSign_0 rfl rfl ?_
        refine tr_getK (k := 17) q5 d_TrustDeskModel_isSign_1 f_TrustDeskModel_198_13 ?_
        refine mv_iconst (v := 4) d_TrustDeskModel_isSign_4 (by decide) ?_
        have := mz_hi v6
        refine mv_icmp_neZ (tgt := 20) (a := v6.toInt) (b := 4) d_TrustDeskModel_isSign_5 (by decide) rfl (by decide) (fun b10 => ?_) (fun b10 => ?_)
        · refine mv_iconst (v := 0) d_TrustDeskModel_isSign_20 (by decide) ?_
          refine mv_iret d_TrustDeskModel_isSign_21 rfl (by decide) ?_
          refine mv_if_eq_t (tgt := 113) d_TrustDeskModel_factor_83 (by decide) (by decide) ?_
          refine mv_aload_n d_TrustDeskModel_factor_113 rfl rfl ?_
          refine mv_iconst (v := 1) d_TrustDeskModel_factor_114 (by decide) ?_
          obtain ⟨_, b17, -⟩ := I0.1 _ _ h_o0
          have : (1 : Int32).toInt = 1 := by decide
          refine mv_callV (kc' := 0) (ks' := 0) (As := [.int 1]) (st9 := [.int 1, .ref o0]) d_TrustDeskModel_factor_115 lV_TrustDeskModel_240 b17 rfl (tc_TrustDeskModel_fails_x (d := (d + 11)) (x9 := x9) (o0 := o0) (x1 := 1) h_o0 yR (by decide) yO I0.start) rfl (Nat.le_of_ble_eq_true rfl) (Nat.le_of_ble_eq_true rfl) (Nat.le_of_ble_eq_true rfl) (hst := rfl) (fun b11r M12 n13 b11 => ?_)
          obtain ⟨T14, J15, rfl, R18, f19, f20⟩ := b11
          have I16 := I0.call J15 (tm_sub (by decide)) (Or.inl rfl)
          have t21 := J15.up h_o0
          have z22 := (rv_c I0 J15 (I0.up h_o0) (k := 16) rfl)
          have z23 := (rv_c I0 J15 (I0.up h_o0) (k := 17) rfl)
          have z24 := (rv_c I0 J15 (I0.up h_o0) (k := 22) rfl)
          have E25 : rE M0 M12 o0 0 0 := yE0.fails (rE_hv I0 J15 (I0.up h_o0) 15 18 (by decide)) (rE_ha I0 J15 (I0.up h_o0) (by decide)) f19 0 0
          rw [show (1 : Int32).toInt = 1 from by decide] at f20
          obtain ⟨s26, e27⟩ : ∃ s9 : p_S, p_fl pb pn 1 ps = s9 := ⟨_, rfl⟩
          rw [e27] at f20
          have := f20.w
          have q28 := J15.keep h_o0 (by decide) q5
          exact mv_vret d_TrustDeskModel_factor_118 rfl ⟨_, I16, rfl, R18, E25.vac (by have := R18.1 15 _ _ rfl; have := R18.1 16 _ _ rfl; have := R18.1 19 _ _ rfl; have := E25.f yS; omega) 1 0, (by have := R18.1 15 _ _ rfl; have := R18.1 16 _ _ rfl; have := R18.1 19 _ _ rfl; have := E25.f yS; omega), (by first | (have := yO.n4 (by omega) (by omega); have := yO.n3 (by omega) (by omega); have := yO.n2 (by omega) (by omega); rw [show p_fac pb pn pa (p_op pb pn pa 2) ps = s26 from (by have hop : (p_op pb pn pa 2) ps = p_sg pb pn 41 (p_sum pb pn pa (p_op pb pn pa 1) (p_nx ps)) := rfl; unfold p_fac; (try simp only [hop]); (try simp only [e27]); ((repeat' (first | (with_reducible rfl) | split)) <;> (exfalso; omega)))]; exact f20) | (exfalso; have := R18.1 15 _ _ rfl; have := R18.1 16 _ _ rfl; have := R18.1 19 _ _ rfl; have := E25.f yS; omega))⟩
        · refine mv_aload_n d_TrustDeskModel_isSign_8 rfl rfl ?_
          obtain ⟨v30, q29⟩ := tm_atI I0 h_o0 (k := 18) rfl
          refine tr_getK q29 d_TrustDeskModel_isSign_9 f_TrustDeskModel_201_13 ?_
          have := yR.f (k := 18) q29 rfl
          have := tm_rv q29
          refine mv_iload_n d_TrustDeskModel_isSign_12 rfl rfl ?_
          have := mz_hi v30
          refine mv_icmp_neZ (tgt := 20) (a := v30.toInt) (b := 40) d_TrustDeskModel_isSign_13 (by decide) rfl (by decide) (fun b31 => ?_) (fun b31 => ?_)
          · refine mv_iconst (v := 0) d_TrustDeskModel_isSign_20 (by decide) ?_
            refine mv_iret d_TrustDeskModel_isSign_21 rfl (by decide) ?_
            refine mv_if_eq_t (tgt := 113) d_TrustDeskModel_factor_83 (by decide) (by decide) ?_
            refine mv_aload_n d_TrustDeskModel_factor_113 rfl rfl ?_
            refine mv_iconst (v := 1) d_TrustDeskModel_factor_114 (by decide) ?_
            obtain ⟨_, b38, -⟩ := I0.1 _ _ h_o0
            have : (1 : Int32).toInt = 1 := by decide
            refine mv_callV (kc' := 0) (ks' := 0) (As := [.int 1]) (st9 := [.int 1, .ref o0]) d_TrustDeskModel_factor_115 lV_TrustDeskModel_240 b38 rfl (tc_TrustDeskModel_fails_x (d := (d + 11)) (x9 := x9) (o0 := o0) (x1 := 1) h_o0 yR (by decide) yO I0.start) rfl (Nat.le_of_ble_eq_true rfl) (Nat.le_of_ble_eq_true rfl) (Nat.le_of_ble_eq_true rfl) (hst := rfl) (fun b32r M33 n34 b32 => ?_)
            obtain ⟨T35, J36, rfl, R39, f40, f41⟩ := b32
            have I37 := I0.call J36 (tm_sub (by decide)) (Or.inl rfl)
            have t42 := J36.up h_o0
            have z43 := (rv_c I0 J36 (I0.up h_o0) (k := 16) rfl)
            have z44 := (rv_c I0 J36 (I0.up h_o0) (k := 17) rfl)
            have z45 := (rv_c I0 J36 (I0.up h_o0) (k := 22) rfl)
            have E46 : rE M0 M33 o0 0 0 := yE0.fails (rE_hv I0 J36 (I0.up h_o0) 15 18 (by decide)) (rE_ha I0 J36 (I0.up h_o0) (by decide)) f40 0 0
            rw [show (1 : Int32).toInt = 1 from by decide] at f41
            obtain ⟨s47, e48⟩ : ∃ s9 : p_S, p_fl pb pn 1 ps = s9 := ⟨_, rfl⟩
            rw [e48] at f41
            have := f41.w
            have q49 := J36.keep h_o0 (by decide) q5
            have q50 := J36.keep h_o0 (by decide) q29
            exact mv_vret d_TrustDeskModel_factor_118 rfl ⟨_, I37, rfl, R39, E46.vac (by have := R39.1 15 _ _ rfl; have := R39.1 16 _ _ rfl; have := R39.1 19 _ _ rfl; have := E46.f yS; omega) 1 0, (by have := R39.1 15 _ _ rfl; have := R39.1 16 _ _ rfl; have := R39.1 19 _ _ rfl; have := E46.f yS; omega), (by first | (have := yO.s4 (by omega) (by omega); rw [show p_fac pb pn pa (p_op pb pn pa 2) ps = s47 from (by have hop : (p_op pb pn pa 2) ps = p_sg pb pn 41 (p_sum pb pn pa (p_op pb pn pa 1) (p_nx ps)) := rfl; unfold p_fac; (try simp only [hop]); (try simp only [e48]); ((repeat' (first | (with_reducible rfl) | split)) <;> (exfalso; omega)))]; exact f41) | (exfalso; have := R39.1 15 _ _ rfl; have := R39.1 16 _ _ rfl; have := R39.1 19 _ _ rfl; have := E46.f yS; omega))⟩
          · refine mv_iconst (v := 1) d_TrustDeskModel_isSign_16 (by decide) ?_
            refine mv_goto (tgt := 21) d_TrustDeskModel_isSign_17 (by decide) ?_
            refine mv_iret d_TrustDeskModel_isSign_21 rfl (by decide) ?_
            refine mv_if_eq_f (tgt := 113) d_TrustDeskModel_factor_83 (by decide) (by decide) ?_
            refine mv_aload_n d_TrustDeskModel_factor_86 rfl rfl ?_
            obtain ⟨_, b57, -⟩ := I0.1 _ _ h_o0
            refine mv_callV (kc' := 0) (ks' := 0) (As := []) (st9 := [.ref o0]) d_TrustDeskModel_factor_87 lV_TrustDeskModel_285 b57 rfl (tc_TrustDeskModel_opens_x (d := (d + 9)) (x9 := x9) (o0 := o0) h_o0 yR yE0.1 (by have := yR.1 15 _ _ rfl; have := yR.1 16 _ _ rfl; have := yR.1 19 _ _ rfl; have := yE0.f yS; omega) (by have := yR.1 15 _ _ rfl; have := yR.1 16 _ _ rfl; have := yR.1 19 _ _ rfl; have := yE0.f yS; omega) (by have := yR.1 15 _ _ rfl; have := yR.1 16 _ _ rfl; have := yR.1 19 _ _ rfl; have := yE0.f yS; omega) (by have := yR.1 15 _ _ rfl; have := yR.1 16 _ _ rfl; have := yR.1 19 _ _ rfl; have := yE0.f yS; omega) yO I0.start) rfl (Nat.le_of_ble_eq_true rfl) (Nat.le_of_ble_eq_true rfl) (Nat.le_of_ble_eq_true rfl) (hst := rfl) (fun b51r M52 n53 b51 => ?_)
            obtain ⟨T54, J55, rfl, R58, f59, f60, f61⟩ := b51
            have I56 := I0.call J55 (tm_sub (by decide)) (Or.inl rfl)
            have t62 := J55.up h_o0
            have E63 : rE M0 M52 o0 0 1 := yE0.trans f59 (by decide) (yR.2 5 _ _ rfl 44).1 (by decide) (by decide)
            have := f59.w
            rw [if_neg (by have := yR.1 15 _ _ rfl; have := yR.1 16 _ _ rfl; have := yR.1 19 _ _ rfl; have := yE0.f yS; omega)] at f61
            obtain ⟨s64, e65⟩ : ∃ s9 : p_S, p_nx ps = s9 := ⟨_, rfl⟩
            rw [e65] at f61
            have := f61.w
            refine mv_aload_n d_TrustDeskModel_factor_90 rfl rfl ?_
            obtain ⟨_, b72, -⟩ := I56.1 _ _ t62
            refine mv_callV (kc' := 0) (ks' := 0) (As := []) (st9 := [.ref o0]) d_TrustDeskModel_factor_91 lV_TrustDeskModel_288 b72 rfl (tc_TrustDeskModel_sum_q2_x (d := d) (x9 := x9) (o0 := o0) t62 R58 E63.1 (by have := R58.1 15 _ _ rfl; have := R58.1 16 _ _ rfl; have := R58.1 19 _ _ rfl; have := E63.f yS; omega) (by have := R58.1 15 _ _ rfl; have := R58.1 16 _ _ rfl; have := R58.1 19 _ _ rfl; have := E63.f yS; omega) f61 I56.start) rfl (Nat.le_of_ble_eq_true rfl) (Nat.le_of_ble_eq_true rfl) (Nat.le_of_ble_eq_true rfl) (hst := rfl) (fun b66r M67 n68 b66 => ?_)
            obtain ⟨T69, J70, rfl, R73, f74, f75, f76⟩ := b66
            have I71 := I56.call J70 (tm_sub (by decide)) (Or.inl rfl)
            have t77 := J70.up t62
            have E78 : rE M0 M67 o0 1 1 := E63.trans f74 (by decide) (yR.2 5 _ _ rfl 44).1 (by decide) (by decide)
            have := f74.w
            obtain ⟨s79, e80⟩ : ∃ s9 : p_S, p_sum pb pn pa (p_op pb pn pa 1) s64 = s9 := ⟨_, rfl⟩
            rw [e80] at f76
            have := f76.w
            refine mv_aload_n d_TrustDeskModel_factor_94 rfl rfl ?_
            refine mv_bipush (v := 41) d_TrustDeskModel_factor_95 (by decide) ?_
            obtain ⟨_, b87, -⟩ := I71.1 _ _ t77
            have : (41 : Int32).toInt = 41 := by decide
            refine mv_callV (kc' := 0) (ks' := 0) (As := [.int 41]) (st9 := [.int 41, .ref o0]) d_TrustDeskModel_factor_97 lV_TrustDeskModel_291 b87 rfl (tc_TrustDeskModel_wantSign_x (d := (d + 9)) (x9 := x9) (o0 := o0) (x1 := 41) t77 R73 E78.1 (by have := R73.1 15 _ _ rfl; have := R73.1 16 _ _ rfl; have := R73.1 19 _ _ rfl; have := E78.f yS; omega) (by decide) f76 I71.start) rfl (Nat.le_of_ble_eq_true rfl) (Nat.le_of_ble_eq_true rfl) (Nat.le_of_ble_eq_true rfl) (hst := rfl) (fun b81r M82 n83 b81 => ?_)
            obtain ⟨T84, J85, rfl, R88, f89, f90⟩ := b81
            have I86 := I71.call J85 (tm_sub (by decide)) (Or.inl rfl)
            have t91 := J85.up t77
            have z92 := (rv_c I71 J85 (I71.up h_o0) (k := 22) rfl)
            have E93 : rE M0 M82 o0 1 2 := E78.trans f89 (by decide) (yR.2 5 _ _ rfl 44).1 (by decide) (by decide)
            have := f89.w
            rw [show (41 : Int32).toInt = 41 from by decide] at f90
            obtain ⟨s94, e95⟩ : ∃ s9 : p_S, p_sg pb pn 41 s79 = s9 := ⟨_, rfl⟩
            rw [e95] at f90
            have := f90.w
            refine mv_aload_n d_TrustDeskModel_factor_100 rfl rfl ?_
            refine mv_dup d_TrustDeskModel_factor_101 rfl ?_
            obtain ⟨v97, q96⟩ := tm_atI I86 t91 (k := 22) rfl
            refine tr_getK q96 d_TrustDeskModel_factor_102 f_TrustDeskModel_276_13 ?_
            have := (tm_rv q96).symm.trans z92
            have := tm_rv q96
            refine mv_iconst (v := 1) d_TrustDeskModel_factor_105 (by decide) ?_
            refine mv_isub d_TrustDeskModel_factor_106 ?_
            have : rv M82 o0 19 = 0 → (v97 - 1 : Int32).toInt = v97.toInt - 1 := fun h9 => mz_sub2 rfl (by decide) (by omega) (by omega)
            refine tr_putR (k := 22) I86 R88 t91 rfl ⟨_, rfl⟩ (fun _ h => by cases h) rfl (fun lo hi h => by cases h) (Or.inl (by decide)) d_TrustDeskModel_factor_107 p_TrustDeskModel_276_13 rfl rfl (fun M98 I99 q100 K101 R102 A103 V104 => ?_)
            have z105 := (V104 16 (by decide))
            have z106 := (V104 17 (by decide))
            have z107 := (V104 19 (by decide))
            have z108 : rv M98 o0 22 = (v97 - 1).toInt := tm_rv q100
            have E109 : rE M0 M98 o0 1 2 := E93.same (fun k h1 h2 => V104 k (by omega)) (fun k h1 h2 => A103 k (by omega))
            have Z9110 : pO M98 o0 pb pn pa s94 := f90.same (fun k h1 h2 => V104 k (by omega)) (V104 23 (by decide)) (A103 13 (by decide))
            refine mv_goto (tgt := 118) d_TrustDeskModel_factor_110 (by decide) ?_
            exact mv_vret d_TrustDeskModel_factor_118 rfl ⟨_, I99, rfl, R102, E109.less (by decide), (by have := R102.1 15 _ _ rfl; have := R102.1 16 _ _ rfl; have := R102.1 19 _ _ rfl; have := E109.f yS; omega), (by first | (have := yO.s4 (by omega) (by omega); rw [show p_fac pb pn pa (p_op pb pn pa 2) ps = s94 from (by have hop : (p_op pb pn pa 2) ps = p_sg pb pn 41 (p_sum pb pn pa (p_op pb pn pa 1) (p_nx ps)) := rfl; unfold p_fac; (try simp only [hop]); (try simp only [e65, e80, e95]); ((repeat' (first | (with_reducible rfl) | split)) <;> (exfalso; omega)))]; exact Z9110) | (exfalso; have := R102.1 15 _ _ rfl; have := R102.1 16 _ _ rfl; have := R102.1 19 _ _ rfl; have := E109.f yS; omega))⟩
      · refine mv_aload_n d_TrustDeskModel_factor_39 rfl rfl ?_
        obtain ⟨_, b117, -⟩ := I0.1 _ _ h_o0
        refine mv_callV (kc' := 0) (ks' := 0) (As := []) (st9 := [.ref o0]) d_TrustDeskModel_factor_40 lV_TrustDeskModel_282 b117 rfl (tc_TrustDeskModel_name_x (d := (d + 6)) (x9 := x9) (o0 := o0) h_o0 yR (by have := yR.1 15 _ _ rfl; have := yR.1 16 _ _ rfl; have := yR.1 19 _ _ rfl; have := yE0.f yS; omega) yO I0.start) rfl (Nat.le_of_ble_eq_true rfl) (Nat.le_of_ble_eq_true rfl) (Nat.le_of_ble_eq_true rfl) (hst := rfl) (fun b111r M112 n113 b111 => ?_)
        obtain ⟨T114, J115, v118, rfl, R119, f120, f121⟩ := b111
        have I116 := I0.call J115 (tm_sub (by decide)) (Or.inl rfl)
        have t122 := J115.up h_o0
        have z123 := (rv_c I0 J115 (I0.up h_o0) (k := 16) rfl)
        have z124 := (rv_c I0 J115 (I0.up h_o0) (k := 17) rfl)
        have z125 := (rv_c I0 J115 (I0.up h_o0) (k := 19) rfl)
        have z126 := (rv_c I0 J115 (I0.up h_o0) (k := 22) rfl)
        have E127 : rE M0 M112 o0 0 0 := yE0.same (rE_hv I0 J115 (I0.up h_o0) 15 19 (by decide)) (rE_ha I0 J115 (I0.up h_o0) (by decide))
        have Z9128 : pO M112 o0 pb pn pa ps := yO.same (rE_hv I0 J115 (I0.up h_o0) 14 20 (by decide)) (rv_c I0 J115 (I0.up h_o0) (k := 23) rfl) (ra_call I0 J115 (I0.up h_o0) (k := 13) rfl rfl rfl)
        have q129 := J115.keep h_o0 (by decide) q2
        have q130 := J115.keep h_o0 (by decide) q5
        refine mv_istore_n (lv' := [(1, .int v118), (0, .ref o0)]) d_TrustDeskModel_factor_43 rfl (by decide) rfl ?_
        refine mv_iload_n d_TrustDeskModel_factor_44 rfl rfl ?_
        refine mv_iconst (v := (-1)) d_TrustDeskModel_factor_45 (by decide) ?_
        have := mz_hi v118
        refine mv_icmp_neZ (tgt := 54) (a := v118.toInt) (b := (-1)) d_TrustDeskModel_factor_46 (by decide) rfl (by decide) (fun b131 => ?_) (fun b131 => ?_)
        · refine mv_aload_n d_TrustDeskModel_factor_54 rfl rfl ?_
          refine mv_sipush (v := 10000) d_TrustDeskModel_factor_55 (by decide) ?_
          refine mv_iload_n d_TrustDeskModel_factor_58 rfl rfl ?_
          refine mv_iadd d_TrustDeskModel_factor_59 ?_
          obtain ⟨_, b138, -⟩ := I116.1 _ _ t122
          have b139 : (10000 + v118 : Int32).toInt = (10000 + v118.toInt) := mz_add2 (by decide) rfl (by have := R119.1 15 _ _ rfl; have := R119.1 16 _ _ rfl; have := R119.1 19 _ _ rfl; have := E127.f yS; omega) (by have := R119.1 15 _ _ rfl; have := R119.1 16 _ _ rfl; have := R119.1 19 _ _ rfl; have := E127.f yS; omega)
          refine mv_callV (kc' := 0) (ks' := 0) (As := [.int (10000 + v118)]) (st9 := [.int (10000 + v118), .ref o0]) d_TrustDeskModel_factor_60 lV_TrustDeskModel_279 b138 rfl (tc_TrustDeskModel_emits_x (d := (d + 10)) (x9 := x9) (o0 := o0) (x1 := (10000 + v118)) t122 R119 (by have := R119.1 15 _ _ rfl; have := R119.1 16 _ _ rfl; have := R119.1 19 _ _ rfl; have := E127.f yS; omega) (by have := R119.1 15 _ _ rfl; have := R119.1 16 _ _ rfl; have := R119.1 19 _ _ rfl; have := E127.f yS; omega) I116.start) rfl (Nat.le_of_ble_eq_true rfl) (Nat.le_of_ble_eq_true rfl) (Nat.le_of_ble_eq_true rfl) (hst := rfl) (fun b132r M133 n134 b132 => ?_)
          obtain ⟨T135, J136, rfl, R140, f141⟩ := b132
          have I137 := I116.call J136 (tm_sub (by decide)) (Or.inl rfl)
          have t142 := J136.up t122
          have z143 := (rv_c I116 J136 (I116.up h_o0) (k := 16) rfl).trans z123
          have z144 := (rv_c I116 J136 (I116.up h_o0) (k := 17) rfl).trans z124
          have z145 := (rv_c I116 J136 (I116.up h_o0) (k := 19) rfl).trans z125
          have z146 := (rv_c I116 J136 (I116.up h_o0) (k := 22) rfl).trans z126
          have E147 : rE M0 M133 o0 1 (-1) := E127.emit f141 (rE_hv I116 J136 (I116.up h_o0) 15 19 (by decide)) (yR.2 5 _ _ rfl 44).1 (by decide) (Or.inl ⟨by have := R119.1 15 _ _ rfl; have := R119.1 16 _ _ rfl; have := R119.1 19 _ _ rfl; have := E127.f yS; omega, by decide⟩) (by decide)
          have Z9148 : pO M133 o0 pb pn pa ps := Z9128.same (rE_hv I116 J136 (I116.up h_o0) 14 20 (by decide)) (rv_c I116 J136 (I116.up h_o0) (k := 23) rfl) (ra_call I116 J136 (I116.up h_o0) (k := 13) rfl rfl rfl)
          clear z123 z124 z125 z126
          have q149 := J136.keep t122 (by decide) q129
          have q150 := J136.keep t122 (by decide) q130
          refine mv_aload_n d_TrustDeskModel_factor_63 rfl rfl ?_
          obtain ⟨_, b151, -⟩ := I137.1 _ _ t142
          refine mv_callV (kc1 := 0) (ks1 := 0) (kc' := 0) (ks' := 0) (As := []) (st9 := [.ref o0]) d_TrustDeskModel_factor_64 lV_TrustDeskModel_230 b151 rfl (mj_enter (by decide) (Nat.le_of_ble_eq_true rfl) ?_) rfl (Nat.le_of_ble_eq_true rfl) (Nat.le_of_ble_eq_true rfl) (Nat.le_of_ble_eq_true rfl) (hst := rfl) (fun _ _ _ h => h)
          refine mv_aload_n d_TrustDeskModel_isWell_0 rfl rfl ?_
          refine tr_getK (k := 19) q149 d_TrustDeskModel_isWell_1 f_TrustDeskModel_224_13 ?_
          have := mz_hi v3
          refine mv_if_neZ (tgt := 11) (a := v3.toInt) d_TrustDeskModel_isWell_4 (by decide) rfl (fun b152 => absurd b152 (by omega)) (fun b152 => ?_)
          refine mv_iconst (v := 1) d_TrustDeskModel_isWell_7 (by decide) ?_
          refine mv_goto (tgt := 12) d_TrustDeskModel_isWell_8 (by decide) ?_
          refine mv_iret d_TrustDeskModel_isWell_12 rfl (by decide) ?_
          refine mv_if_eq_f (tgt := 74) d_TrustDeskModel_factor_67 (by decide) (by decide) ?_
          refine mv_aload_n d_TrustDeskModel_factor_70 rfl rfl ?_
          obtain ⟨_, b159, -⟩ := I137.1 _ _ t142
          refine mv_callV (kc' := 0) (ks' := 0) (As := []) (st9 := [.ref o0]) d_TrustDeskModel_factor_71 lV_TrustDeskModel_237 b159 rfl (tc_TrustDeskModel_next_x (d := (d + 10)) (x9 := x9) (o0 := o0) t142 R140 Z9148.p I137.start) rfl (Nat.le_of_ble_eq_true rfl) (Nat.le_of_ble_eq_true rfl) (Nat.le_of_ble_eq_true rfl) (hst := rfl) (fun b153r M154 n155 b153 => ?_)
          obtain ⟨T156, J157, rfl, R160, f161, f162, f163⟩ := b153
          have I158 := I137.call J157 (tm_sub (by decide)) (Or.inl rfl)
          have t164 := J157.up t142
          have z165 := (rv_c I137 J157 (I137.up h_o0) (k := 19) rfl).trans z145
          have z166 := (rv_c I137 J157 (I137.up h_o0) (k := 22) rfl).trans z146
          have h168 : rv M133 o0 16 + 1 ≤ rv M133 o0 15 := (by have := R140.1 15 _ _ rfl; have := R140.1 16 _ _ rfl; have := R140.1 19 _ _ rfl; have := E147.f yS; omega)
          have E167 : rE M0 M154 o0 1 0 := E147.next f161 f162 (rv_c I137 J157 (I137.up h_o0) (k := 19) rfl) (rE_ha I137 J157 (I137.up h_o0) (by decide)) (e := 1) h168 (by decide)
          obtain ⟨s169, e170⟩ : ∃ s9 : p_S, p_nx ps = s9 := ⟨_, rfl⟩
          rw [e170] at f163
          have := f163.w
          clear z145 z146
          have q171 := J157.keep t142 (by decide) q149
          refine mv_goto (tgt := 118) d_TrustDeskModel_factor_74 (by decide) ?_
          exact mv_vret d_TrustDeskModel_factor_118 rfl ⟨_, I158, rfl, R160, E167, (by have := R160.1 15 _ _ rfl; have := R160.1 16 _ _ rfl; have := R160.1 19 _ _ rfl; have := E167.f yS; omega), (by first | (have := yO.s3 (by omega) (by omega); rw [show p_fac pb pn pa (p_op pb pn pa 2) ps = s169 from (by have hop : (p_op pb pn pa 2) ps = p_sg pb pn 41 (p_sum pb pn pa (p_op pb pn pa 1) (p_nx ps)) := rfl; unfold p_fac; (try simp only [hop]); (try simp only [e170]); ((repeat' (first | (with_reducible rfl) | split)) <;> (exfalso; omega)))]; exact f163) | (exfalso; have := R160.1 15 _ _ rfl; have := R160.1 16 _ _ rfl; have := R160.1 19 _ _ rfl; have := E167.f yS; omega))⟩
        · refine mv_aload_n d_TrustDeskModel_factor_49 rfl rfl ?_
          refine mv_iconst (v := 3) d_TrustDeskModel_factor_50 (by decide) ?_
          obtain ⟨_, b178, -⟩ := I116.1 _ _ t122
          have : (3 : Int32).toInt = 3 := by decide
          refine mv_callV (kc' := 0) (ks' := 0) (As := [.int 3]) (st9 := [.int 3, .ref o0]) d_TrustDeskModel_factor_51 lV_TrustDeskModel_240 b178 rfl (tc_TrustDeskModel_fails_x (d := (d + 11)) (x9 := x9) (o0 := o0) (x1 := 3) t122 R119 (by decide) Z9128 I116.start) rfl (Nat.le_of_ble_eq_true rfl) (Nat.le_of_ble_eq_true rfl) (Nat.le_of_ble_eq_true rfl) (hst := rfl) (fun b172r M173 n174 b172 => ?_)
          obtain ⟨T175, J176, rfl, R179, f180, f181⟩ := b172
          have I177 := I116.call J176 (tm_sub (by decide)) (Or.inl rfl)
          have t182 := J176.up t122
          have z183 := (rv_c I116 J176 (I116.up h_o0) (k := 16) rfl).trans z123
          have z184 := (rv_c I116 J176 (I116.up h_o0) (k := 17) rfl).trans z124
          have z185 := (rv_c I116 J176 (I116.up h_o0) (k := 22) rfl).trans z126
          have E186 : rE M0 M173 o0 0 0 := E127.fails (rE_hv I116 J176 (I116.up h_o0) 15 18 (by decide)) (rE_ha I116 J176 (I116.up h_o0) (by decide)) f180 0 0
          rw [show (3 : Int32).toInt = 3 from by decide] at f181
          obtain ⟨s187, e188⟩ : ∃ s9 : p_S, p_fl pb pn 3 ps = s9 := ⟨_, rfl⟩
          rw [e188] at f181
          have := f181.w
          clear z123 z124 z126
          have q189 := J176.keep t122 (by decide) q130
          refine mv_aload_n d_TrustDeskModel_factor_54 rfl rfl ?_
          refine mv_sipush (v := 10000) d_TrustDeskModel_factor_55 (by decide) ?_
          refine mv_iload_n d_TrustDeskModel_factor_58 rfl rfl ?_
          refine mv_iadd d_TrustDeskModel_factor_59 ?_
          obtain ⟨_, b196, -⟩ := I177.1 _ _ t182
          have b197 : (10000 + v118 : Int32).toInt = (10000 + v118.toInt) := mz_add2 (by decide) rfl (by have := R179.1 15 _ _ rfl; have := R179.1 16 _ _ rfl; have := R179.1 19 _ _ rfl; have := E186.f yS; omega) (by have := R179.1 15 _ _ rfl; have := R179.1 16 _ _ rfl; have := R179.1 19 _ _ rfl; have := E186.f yS; omega)
          refine mv_callV (kc' := 0) (ks' := 0) (As := [.int (10000 + v118)]) (st9 := [.int (10000 + v118), .ref o0]) d_TrustDeskModel_factor_60 lV_TrustDeskModel_279 b196 rfl (tc_TrustDeskModel_emits_x (d := (d + 10)) (x9 := x9) (o0 := o0) (x1 := (10000 + v118)) t182 R179 (by have := R179.1 15 _ _ rfl; have := R179.1 16 _ _ rfl; have := R179.1 19 _ _ rfl; have := E186.f yS; omega) (by have := R179.1 15 _ _ rfl; have := R179.1 16 _ _ rfl; have := R179.1 19 _ _ rfl; have := E186.f yS; omega) I177.start) rfl (Nat.le_of_ble_eq_true rfl) (Nat.le_of_ble_eq_true rfl) (Nat.le_of_ble_eq_true rfl) (hst := rfl) (fun b190r M191 n192 b190 => ?_)
          obtain ⟨T193, J194, rfl, R198, f199⟩ := b190
          have I195 := I177.call J194 (tm_sub (by decide)) (Or.inl rfl)
          have t200 := J194.up t182
          have z201 := (rv_c I177 J194 (I177.up h_o0) (k := 16) rfl).trans z183
          have z202 := (rv_c I177 J194 (I177.up h_o0) (k := 17) rfl).trans z184
          have z203 := (rv_c I177 J194 (I177.up h_o0) (k := 19) rfl)
          have z204 := (rv_c I177 J194 (I177.up h_o0) (k := 22) rfl).trans z185
          have E205 : rE M0 M191 o0 1 (-1) := E186.emit f199 (rE_hv I177 J194 (I177.up h_o0) 15 19 (by decide)) (yR.2 5 _ _ rfl 44).1 (by decide) (Or.inl ⟨by have := R179.1 15 _ _ rfl; have := R179.1 16 _ _ rfl; have := R179.1 19 _ _ rfl; have := E186.f yS; omega, by decide⟩) (by decide)
          have Z9206 : pO M191 o0 pb pn pa s187 := f181.same (rE_hv I177 J194 (I177.up h_o0) 14 20 (by decide)) (rv_c I177 J194 (I177.up h_o0) (k := 23) rfl) (ra_call I177 J194 (I177.up h_o0) (k := 13) rfl rfl rfl)
          clear z183 z184 z185
          have q207 := J194.keep t182 (by decide) q189
          refine mv_aload_n d_TrustDeskModel_factor_63 rfl rfl ?_
          obtain ⟨_, b208, -⟩ := I195.1 _ _ t200
          refine mv_callV (kc1 := 0) (ks1 := 0) (kc' := 0) (ks' := 0) (As := []) (st9 := [.ref o0]) d_TrustDeskModel_factor_64 lV_TrustDeskModel_230 b208 rfl (mj_enter (by decide) (Nat.le_of_ble_eq_true rfl) ?_) rfl (Nat.le_of_ble_eq_true rfl) (Nat.le_of_ble_eq_true rfl) (Nat.le_of_ble_eq_true rfl) (hst := rfl) (fun _ _ _ h => h)
          refine mv_aload_n d_TrustDeskModel_isWell_0 rfl rfl ?_
          obtain ⟨v210, q209⟩ := tm_atI I195 t200 (k := 19) rfl
          refine tr_getK q209 d_TrustDeskModel_isWell_1 f_TrustDeskModel_224_13 ?_
          have := R198.f (k := 19) q209 rfl
          have := (tm_rv q209).symm.trans z203
          have := tm_rv q209
          have := mz_hi v210
          refine mv_if_neZ (tgt := 11) (a := v210.toInt) d_TrustDeskModel_isWell_4 (by decide) rfl (fun b211 => ?_) (fun b211 => ?_)
          · refine mv_iconst (v := 0) d_TrustDeskModel_isWell_11 (by decide) ?_
            refine mv_iret d_TrustDeskModel_isWell_12 rfl (by decide) ?_
            refine mv_if_eq_t (tgt := 74) d_TrustDeskModel_factor_67 (by decide) (by decide) ?_
            refine mv_goto (tgt := 118) d_TrustDeskModel_factor_74 (by decide) ?_
            exact mv_vret d_TrustDeskModel_factor_118 rfl ⟨_, I195, rfl, R198, E205.vac (by have := R198.1 15 _ _ rfl; have := R198.1 16 _ _ rfl; have := R198.1 19 _ _ rfl; have := E205.f yS; omega) 1 0, (by have := R198.1 15 _ _ rfl; have := R198.1 16 _ _ rfl; have := R198.1 19 _ _ rfl; have := E205.f yS; omega), (by first | (have := yO.s3 (by omega) (by omega); rw [show p_fac pb pn pa (p_op pb pn pa 2) ps = s187 from (by have hop : (p_op pb pn pa 2) ps = p_sg pb pn 41 (p_sum pb pn pa (p_op pb pn pa 1) (p_nx ps)) := rfl; unfold p_fac; (try simp only [hop]); (try simp only [e188]); ((repeat' (first | (with_reducible rfl) | split)) <;> (exfalso; omega)))]; exact Z9206) | (exfalso; have := R198.1 15 _ _ rfl; have := R198.1 16 _ _ rfl; have := R198.1 19 _ _ rfl; have := E205.f yS; omega))⟩
          · refine mv_iconst (v := 1) d_TrustDeskModel_isWell_7 (by decide) ?_
            refine mv_goto (tgt := 12) d_TrustDeskModel_isWell_8 (by decide) ?_
            refine mv_iret d_TrustDeskModel_isWell_12 rfl (by decide) ?_
            refine mv_if_eq_f (tgt := 74) d_TrustDeskModel_factor_67 (by decide) (by decide) ?_
            refine mv_aload_n d_TrustDeskModel_factor_70 rfl rfl ?_
            obtain ⟨_, b218, -⟩ := I195.1 _ _ t200
            refine mv_callV (kc' := 0) (ks' := 0) (As := []) (st9 := [.ref o0]) d_TrustDeskModel_factor_71 lV_TrustDeskModel_237 b218 rfl (tc_TrustDeskModel_next_x (d := (d + 10)) (x9 := x9) (o0 := o0) t200 R198 Z9206.p I195.start) rfl (Nat.le_of_ble_eq_true rfl) (Nat.le_of_ble_eq_true rfl) (Nat.le_of_ble_eq_true rfl) (hst := rfl) (fun b212r M213 n214 b212 => ?_)
            obtain ⟨T215, J216, rfl, R219, f220, f221, f222⟩ := b212
            have I217 := I195.call J216 (tm_sub (by decide)) (Or.inl rfl)
            have t223 := J216.up t200
            have z224 := (rv_c I195 J216 (I195.up h_o0) (k := 19) rfl).trans z203
            have z225 := (rv_c I195 J216 (I195.up h_o0) (k := 22) rfl).trans z204
            have h227 : rv M191 o0 16 + 1 ≤ rv M191 o0 15 := (by have := R198.1 15 _ _ rfl; have := R198.1 16 _ _ rfl; have := R198.1 19 _ _ rfl; have := E205.f yS; omega)
            have E226 : rE M0 M213 o0 1 0 := E205.next f220 f221 (rv_c I195 J216 (I195.up h_o0) (k := 19) rfl) (rE_ha I195 J216 (I195.up h_o0) (by decide)) (e := 1) h227 (by decide)
            obtain ⟨s228, e229⟩ : ∃ s9 : p_S, p_nx s187 = s9 := ⟨_, rfl⟩
            rw [e229] at f222
            have := f222.w
            clear z203 z204
            have q230 := J216.keep t200 (by decide) q209
            refine mv_goto (tgt := 118) d_TrustDeskModel_factor_74 (by decide) ?_
            exact mv_vret d_TrustDeskModel_factor_118 rfl ⟨_, I217, rfl, R219, E226, (by have := R219.1 15 _ _ rfl; have := R219.1 16 _ _ rfl; have := R219.1 19 _ _ rfl; have := E226.f yS; omega), (by first | (have := yO.s3 (by omega) (by omega); rw [show p_fac pb pn pa (p_op pb pn pa 2) ps = s228 from (by have hop : (p_op pb pn pa 2) ps = p_sg pb pn 41 (p_sum pb pn pa (p_op pb pn pa 1) (p_nx ps)) := rfl; unfold p_fac; (try simp only [hop]); (try simp only [e188, e229]); ((repeat' (first | (with_reducible rfl) | split)) <;> (exfalso; omega)))]; exact f222) | (exfalso; have := R219.1 15 _ _ rfl; have := R219.1 16 _ _ rfl; have := R219.1 19 _ _ rfl; have := E226.f yS; omega))⟩
    · refine mv_aload_n d_TrustDeskModel_factor_16 rfl rfl ?_
      refine mv_aload_n d_TrustDeskModel_factor_17 rfl rfl ?_
      obtain ⟨v232, q231⟩ := tm_atI I0 h_o0 (k := 18) rfl
      refine tr_getK q231 d_TrustDeskModel_factor_18 f_TrustDeskModel_201_13 ?_
      have := yR.f (k := 18) q231 rfl
      have := tm_rv q231
      obtain ⟨_, b239, -⟩ := I0.1 _ _ h_o0
      refine mv_callV (kc' := 0) (ks' := 0) (As := [.int v232]) (st9 := [.int v232, .ref o0]) d_TrustDeskModel_factor_21 lV_TrustDeskModel_279 b239 rfl (tc_TrustDeskModel_emits_x (d := (d + 10)) (x9 := x9) (o0 := o0) (x1 := v232) h_o0 yR (by have := yR.1 15 _ _ rfl; have := yR.1 16 _ _ rfl; have := yR.1 19 _ _ rfl; have := yE0.f yS; omega) (by have := yR.1 15 _ _ rfl; have := yR.1 16 _ _ rfl; have := yR.1 19 _ _ rfl; have := yE0.f yS; omega) I0.start) rfl (Nat.le_of_ble_eq_true rfl) (Nat.le_of_ble_eq_true rfl) (Nat.le_of_ble_eq_true rfl) (hst := rfl) (fun b233r M234 n235 b233 => ?_)
      obtain ⟨T236, J237, rfl, R240, f241⟩ := b233
      have I238 := I0.call J237 (tm_sub (by decide)) (Or.inl rfl)
      have t242 := J237.up h_o0
      have z243 := (rv_c I0 J237 (I0.up h_o0) (k := 16) rfl)
      have z244 := (rv_c I0 J237 (I0.up h_o0) (k := 17) rfl)
      have z245 := (rv_c I0 J237 (I0.up h_o0) (k := 19) rfl)
      have z246 := (rv_c I0 J237 (I0.up h_o0) (k := 22) rfl)
      have E247 : rE M0 M234 o0 1 (-1) := yE0.emit f241 (rE_hv I0 J237 (I0.up h_o0) 15 19 (by decide)) (yR.2 5 _ _ rfl 44).1 (by decide) (Or.inl ⟨by have := yR.1 15 _ _ rfl; have := yR.1 16 _ _ rfl; have := yR.1 19 _ _ rfl; have := yE0.f yS; omega, by decide⟩) (by decide)
      have Z9248 : pO M234 o0 pb pn pa ps := yO.same (rE_hv I0 J237 (I0.up h_o0) 14 20 (by decide)) (rv_c I0 J237 (I0.up h_o0) (k := 23) rfl) (ra_call I0 J237 (I0.up h_o0) (k := 13) rfl rfl rfl)
      have q249 := J237.keep h_o0 (by decide) q2
      have q250 := J237.keep h_o0 (by decide) q5
      have q251 := J237.keep h_o0 (by decide) q231
      refine mv_aload_n d_TrustDeskModel_factor_24 rfl rfl ?_
      obtain ⟨_, b258, -⟩ := I238.1 _ _ t242
      refine mv_callV (kc' := 0) (ks' := 0) (As := []) (st9 := [.ref o0]) d_TrustDeskModel_factor_25 lV_TrustDeskModel_237 b258 rfl (tc_TrustDeskModel_next_x (d := (d + 10)) (x9 := x9) (o0 := o0) t242 R240 Z9248.p I238.start) rfl (Nat.le_of_ble_eq_true rfl) (Nat.le_of_ble_eq_true rfl) (Nat.le_of_ble_eq_true rfl) (hst := rfl) (fun b252r M253 n254 b252 => ?_)
      obtain ⟨T255, J256, rfl, R259, f260, f261, f262⟩ := b252
      have I257 := I238.call J256 (tm_sub (by decide)) (Or.inl rfl)
      have t263 := J256.up t242
      have z264 := (rv_c I238 J256 (I238.up h_o0) (k := 19) rfl).trans z245
      have z265 := (rv_c I238 J256 (I238.up h_o0) (k := 22) rfl).trans z246
      have h267 : rv M234 o0 16 + 1 ≤ rv M234 o0 15 := (by have := R240.1 15 _ _ rfl; have := R240.1 16 _ _ rfl; have := R240.1 19 _ _ rfl; have := E247.f yS; omega)
      have E266 : rE M0 M253 o0 1 0 := E247.next f260 f261 (rv_c I238 J256 (I238.up h_o0) (k := 19) rfl) (rE_ha I238 J256 (I238.up h_o0) (by decide)) (e := 1) h267 (by decide)
      obtain ⟨s268, e269⟩ : ∃ s9 : p_S, p_nx ps = s9 := ⟨_, rfl⟩
      rw [e269] at f262
      have := f262.w
      clear z245 z246
      have q270 := J256.keep t242 (by decide) q249
      refine mv_goto (tgt := 118) d_TrustDeskModel_factor_28 (by decide) ?_
      exact mv_vret d_TrustDeskModel_factor_118 rfl ⟨_, I257, rfl, R259, E266, (by have := R259.1 15 _ _ rfl; have := R259.1 16 _ _ rfl; have := R259.1 19 _ _ rfl; have := E266.f yS; omega), (by first | (have := yO.s2 (by omega) (by omega); rw [show p_fac pb pn pa (p_op pb pn pa 2) ps = s268 from (by have hop : (p_op pb pn pa 2) ps = p_sg pb pn 41 (p_sum pb pn pa (p_op pb pn pa 1) (p_nx ps)) := rfl; unfold p_fac; (try simp only [hop]); (try simp only [e269]); ((repeat' (first | (with_reducible rfl) | split)) <;> (exfalso; omega)))]; exact f262) | (exfalso; have := R259.1 15 _ _ rfl; have := R259.1 16 _ _ rfl; have := R259.1 19 _ _ rfl; have := E266.f yS; omega))⟩
def w_TrustDeskModel_product_q3_x : List Nat := [1315, 1316, 1317, 1318, 1319, 1320, 1322, 20004, 20005]
set_option maxHeartbeats 100000000 in theorem tc_TrustDeskModel_product_q3_x {g : mj_G} {l : Launch} {d : Nat} {T0 : tm_H} {M0 : mj_M} {n0 x9 : Nat} {o0 : Nat} (h_o0 : T0 o0 = some (0, 13, 0)) (yR : rI M0 o0) (yT : rT M0 o0) (yS : rv M0 o0 19 = 0 → ra M0 o0 5 44 ≤ rv M0 o0 16) (yL : rv M0 o0 19 ≠ 0 ∨ (2 ≤ rv M0 o0 22 ∧ rv M0 o0 22 ≤ 2)) {pb : Nat → Int} {pn : Nat} {pa : Int} {ps : p_S} (yO : pO M0 o0 pb pn pa ps) (I0 : tm_I tm_FT (tm_in w_TrustDeskModel_product_q3_x) x9 T0 M0 n0 T0 M0 n0) : mj_Met g l kY_TrustDeskModel_product (d + 13) [.ref o0] M0 n0 0 0 (tm_Q tm_FT (tm_in w_TrustDeskModel_product_q3_x) x9 T0 M0 n0 (fun r _ M => r = none ∧ rI M o0 ∧ (rE M0 M o0 1 0) ∧ (rv M o0 19 = 0 → rv M o0 22 = rv M0 o0 22) ∧ (pO M o0 pb pn pa (p_pro pb pn pa (p_op pb pn pa 2) ps)))) := by
  refine mj_enter (by decide) (Nat.le_of_ble_eq_true rfl) ?_
  have yE0 := rE.rf yT
  have := yO.w
  refine mv_aload_n d_TrustDeskModel_product_0 rfl rfl ?_
  obtain ⟨_, b7, -⟩ := I0.1 _ _ h_o0
  refine mv_callV (kc' := 0) (ks' := 0) (As := []) (st9 := [.ref o0]) d_TrustDeskModel_product_1 lV_TrustDeskModel_294 b7 rfl (tc_TrustDeskModel_factor_q3_x (d := d) (x9 := x9) (o0 := o0) h_o0 yR yE0.1 (by have := yR.1 15 _ _ rfl; have := yR.1 16 _ _ rfl; have := yR.1 19 _ _ rfl; have := yE0.f yS; omega) (by have := yR.1 15 _ _ rfl; have := yR.1 16 _ _ rfl; have := yR.1 19 _ _ rfl; have := yE0.f yS; omega) yO I0.start) rfl (Nat.le_of_ble_eq_true rfl) (Nat.le_of_ble_eq_true rfl) (Nat.le_of_ble_eq_true rfl) (hst := rfl) (fun b1r M2 n3 b1 => ?_)
  obtain ⟨T4, J5, rfl, R8, f9, f10, f11⟩ := b1
  have I6 := I0.call J5 (tm_sub (by decide)) (Or.inl rfl)
  have t12 := J5.up h_o0
  have E13 : rE M0 M2 o0 1 0 := yE0.trans f9 (by decide) (yR.2 5 _ _ rfl 44).1 (by decide) (by decide)
  have := f9.w
  obtain ⟨s14, e15⟩ : ∃ s9 : p_S, p_fac pb pn pa (p_op pb pn pa 2) ps = s9 := ⟨_, rfl⟩
  rw [e15] at f11
  have := f11.w
  have L4_16 : ∀ (k : Nat) (T_16 : tm_H) (M_16 : mj_M) (n_16 : Nat), tm_I tm_FT (tm_in w_TrustDeskModel_product_q3_x) x9 T0 M0 n0 T_16 M_16 n_16 → T_16 o0 = some (0, 13, 0) → (rv M_16 o0 19 = 0 → rv M_16 o0 22 = rv M0 o0 22) → (rI M_16 o0) → (rE M0 M_16 o0 1 0) → (∃ s1 : p_S, pO M_16 o0 pb pn pa s1 ∧ p_lp pn (p_pr1 pb pn pa (p_op pb pn pa 2)) s1 = p_pro pb pn pa (p_op pb pn pa 2) ps) → 5 * (401 - rv M_16 o0 16) - rv M_16 o0 19 < (k : Int) → mj_V g l kY_TrustDeskModel_product (d + 13) 4 [(0, .ref o0)] [] M_16 n_16 0 0 (tm_Q tm_FT (tm_in w_TrustDeskModel_product_q3_x) x9 T0 M0 n0 (fun r _ M => r = none ∧ rI M o0 ∧ (rE M0 M o0 1 0) ∧ (rv M o0 19 = 0 → rv M o0 22 = rv M0 o0 22) ∧ (pO M o0 pb pn pa (p_pro pb pn pa (p_op pb pn pa 2) ps)))) := by
    intro k16
    induction k16 with
    | zero =>
      intro T_16 M_16 n_16 I_16 h_q0_16 iv0_16 kKR_16 kKE_16 kKT9_16 hk16
      have := kKR_16.1 15 _ _ rfl
      have := kKR_16.1 16 _ _ rfl
      have := kKR_16.1 19 _ _ rfl
      exfalso; omega
    | succ k16 ih16 =>
      intro T_16 M_16 n_16 I_16 h_q0_16 iv0_16 kKR_16 kKE_16 kKT9_16 hk16
      have := kKE_16.f yS
      obtain ⟨s17, Z918, e19⟩ := kKT9_16
      have := Z918.w
      refine mv_aload_n d_TrustDeskModel_product_4 rfl rfl ?_
      obtain ⟨_, b20, -⟩ := I_16.1 _ _ h_q0_16
      refine mv_callV (kc1 := 0) (ks1 := 0) (kc' := 0) (ks' := 0) (As := []) (st9 := [.ref o0]) d_TrustDeskModel_product_5 lV_TrustDeskModel_230 b20 rfl (mj_enter (by decide) (Nat.le_of_ble_eq_true rfl) ?_) rfl (Nat.le_of_ble_eq_true rfl) (Nat.le_of_ble_eq_true rfl) (Nat.le_of_ble_eq_true rfl) (hst := rfl) (fun _ _ _ h => h)
      refine mv_aload_n d_TrustDeskModel_isWell_0 rfl rfl ?_
      obtain ⟨v22, q21⟩ := tm_atI I_16 h_q0_16 (k := 19) rfl
      refine tr_getK q21 d_TrustDeskModel_isWell_1 f_TrustDeskModel_224_13 ?_
      have := kKR_16.f (k := 19) q21 rfl
      have := tm_rv q21
      have := mz_hi v22
      refine mv_if_neZ (tgt := 11) (a := v22.toInt) d_TrustDeskModel_isWell_4 (by decide) rfl (fun b23 => ?_) (fun b23 => ?_)
      · refine mv_iconst (v := 0) d_TrustDeskModel_isWell_11 (by decide) ?_
        refine mv_iret d_TrustDeskModel_isWell_12 rfl (by decide) ?_
        refine mv_if_eq_t (tgt := 37) d_TrustDeskModel_product_8 (by decide) (by decide) ?_
        exact mv_vret d_TrustDeskModel_product_37 rfl ⟨_, I_16, rfl, kKR_16, kKE_16, (by have := kKR_16.1 15 _ _ rfl; have := kKR_16.1 16 _ _ rfl; have := kKR_16.1 19 _ _ rfl; have := kKE_16.f yS; omega), (by first | (have hX := e19.symm.trans (p_lp_stop (show (p_pr1 pb pn pa (p_op pb pn pa 2)) s17 = s17 from if_neg (fun h9 => by omega))); rw [show p_pro pb pn pa (p_op pb pn pa 2) ps = s17 from (by exact hX)]; exact Z918) | (exfalso; have := kKR_16.1 15 _ _ rfl; have := kKR_16.1 16 _ _ rfl; have := kKR_16.1 19 _ _ rfl; have := kKE_16.f yS; omega))⟩
      · refine mv_iconst (v := 1) d_TrustDeskModel_isWell_7 (by decide) ?_
        refine mv_goto (tgt := 12) d_TrustDeskModel_isWell_8 (by decide) ?_
        refine mv_iret d_TrustDeskModel_isWell_12 rfl (by decide) ?_
        refine mv_if_eq_f (tgt := 37) d_TrustDeskModel_product_8 (by decide) (by decide) ?_
        refine mv_aload_n d_TrustDeskModel_product_11 rfl rfl ?_
        refine mv_bipush (v := 42) d_TrustDeskModel_product_12 (by decide) ?_
        obtain ⟨_, b24, -⟩ := I_16.1 _ _ h_q0_16
        refine mv_callV (kc1 := 0) (ks1 := 0) (kc' := 0) (ks' := 0) (As := [.int 42]) (st9 := [.int 42, .ref o0]) d_TrustDeskModel_product_14 lV_TrustDeskModel_234 b24 rfl (mj_enter (by decide) (Nat.le_of_ble_eq_true rfl) ?_) rfl (Nat.le_of_ble_eq_true rfl) (Nat.le_of_ble_eq_true rfl) (Nat.le_of_ble_eq_true rfl) (hst := rfl) (fun _ _ _ h => h)
        refine mv_aload_n d_TrustDeskModel_isSign_0 rfl rfl ?_
        obtain ⟨v26, q25⟩ := tm_atI I_16 h_q0_16 (k := 17) rfl
        refine tr_getK q25 d_TrustDeskModel_isSign_1 f_TrustDeskModel_198_13 ?_
        have := tm_rv q25
        refine mv_iconst (v := 4) d_TrustDeskModel_isSign_4 (by decide) ?_
        have := mz_hi v26
        refine mv_icmp_neZ (tgt := 20) (a := v26.toInt) (b := 4) d_TrustDeskModel_isSign_5 (by decide) rfl (by decide) (fun b27 => ?_) (fun b27 => ?_)
        · refine mv_iconst (v := 0) d_TrustDeskModel_isSign_20 (by decide) ?_
          refine mv_iret d_TrustDeskModel_isSign_21 rfl (by decide) ?_
          refine mv_if_eq_t (tgt := 37) d_TrustDeskModel_product_17 (by decide) (by decide) ?_
          exact mv_vret d_TrustDeskModel_product_37 rfl ⟨_, I_16, rfl, kKR_16, kKE_16, (by have := kKR_16.1 15 _ _ rfl; have := kKR_16.1 16 _ _ rfl; have := kKR_16.1 19 _ _ rfl; have := kKE_16.f yS; omega), (by first | (have := Z918.n4 (by omega) (by omega); have hX := e19.symm.trans (p_lp_stop (show (p_pr1 pb pn pa (p_op pb pn pa 2)) s17 = s17 from if_neg (fun h9 => by omega))); rw [show p_pro pb pn pa (p_op pb pn pa 2) ps = s17 from (by exact hX)]; exact Z918) | (exfalso; have := kKR_16.1 15 _ _ rfl; have := kKR_16.1 16 _ _ rfl; have := kKR_16.1 19 _ _ rfl; have := kKE_16.f yS; omega))⟩
        · refine mv_aload_n d_TrustDeskModel_isSign_8 rfl rfl ?_
          obtain ⟨v29, q28⟩ := tm_atI I_16 h_q0_16 (k := 18) rfl
          refine tr_getK q28 d_TrustDeskModel_isSign_9 f_TrustDeskModel_201_13 ?_
          have := kKR_16.f (k := 18) q28 rfl
          have := tm_rv q28
          refine mv_iload_n d_TrustDeskModel_isSign_12 rfl rfl ?_
          have := mz_hi v29
          refine mv_icmp_neZ (tgt := 20) (a := v29.toInt) (b := 42) d_TrustDeskModel_isSign_13 (by decide) rfl (by decide) (fun b30 => ?_) (fun b30 => ?_)
          · refine mv_iconst (v := 0) d_TrustDeskModel_isSign_20 (by decide) ?_
            refine mv_iret d_TrustDeskModel_isSign_21 rfl (by decide) ?_
            refine mv_if_eq_t (tgt := 37) d_TrustDeskModel_product_17 (by decide) (by decide) ?_
            exact mv_vret d_TrustDeskModel_product_37 rfl ⟨_, I_16, rfl, kKR_16, kKE_16, (by have := kKR_16.1 15 _ _ rfl; have := kKR_16.1 16 _ _ rfl; have := kKR_16.1 19 _ _ rfl; have := kKE_16.f yS; omega), (by first | (have := Z918.s4 (by omega) (by omega); have hX := e19.symm.trans (p_lp_stop (show (p_pr1 pb pn pa (p_op pb pn pa 2)) s17 = s17 from if_neg (fun h9 => by omega))); rw [show p_pro pb pn pa (p_op pb pn pa 2) ps = s17 from (by exact hX)]; exact Z918) | (exfalso; have := kKR_16.1 15 _ _ rfl; have := kKR_16.1 16 _ _ rfl; have := kKR_16.1 19 _ _ rfl; have := kKE_16.f yS; omega))⟩
          · refine mv_iconst (v := 1) d_TrustDeskModel_isSign_16 (by decide) ?_
            refine mv_goto (tgt := 21) d_TrustDeskModel_isSign_17 (by decide) ?_
            refine mv_iret d_TrustDeskModel_isSign_21 rfl (by decide) ?_
            refine mv_if_eq_f (tgt := 37) d_TrustDeskModel_product_17 (by decide) (by decide) ?_
            refine mv_aload_n d_TrustDeskModel_product_20 rfl rfl ?_
            obtain ⟨_, b37, -⟩ := I_16.1 _ _ h_q0_16
            refine mv_callV (kc' := 0) (ks' := 0) (As := []) (st9 := [.ref o0]) d_TrustDeskModel_product_21 lV_TrustDeskModel_237 b37 rfl (tc_TrustDeskModel_next_x (d := (d + 11)) (x9 := x9) (o0 := o0) h_q0_16 kKR_16 Z918.p I_16.start) rfl (Nat.le_of_ble_eq_true rfl) (Nat.le_of_ble_eq_true rfl) (Nat.le_of_ble_eq_true rfl) (hst := rfl) (fun b31r M32 n33 b31 => ?_)
            obtain ⟨T34, J35, rfl, R38, f39, f40, f41⟩ := b31
            have I36 := I_16.call J35 (tm_sub (by decide)) (Or.inl rfl)
            have t42 := J35.up h_q0_16
            have z43 := (rv_c I_16 J35 (I_16.up h_o0) (k := 19) rfl)
            have z44 := (rv_c I_16 J35 (I_16.up h_o0) (k := 22) rfl)
            have h46 : rv M_16 o0 16 + 1 ≤ rv M_16 o0 15 := (by have := kKR_16.1 15 _ _ rfl; have := kKR_16.1 16 _ _ rfl; have := kKR_16.1 19 _ _ rfl; have := kKE_16.f yS; omega)
            have E45 : rE M0 M32 o0 1 1 := kKE_16.next f39 f40 (rv_c I_16 J35 (I_16.up h_o0) (k := 19) rfl) (rE_ha I_16 J35 (I_16.up h_o0) (by decide)) (e := 1) h46 (by decide)
            obtain ⟨s47, e48⟩ : ∃ s9 : p_S, p_nx s17 = s9 := ⟨_, rfl⟩
            rw [e48] at f41
            have := f41.w
            have q49 := J35.keep h_q0_16 (by decide) q21
            refine mv_aload_n d_TrustDeskModel_product_24 rfl rfl ?_
            obtain ⟨_, b56, -⟩ := I36.1 _ _ t42
            refine mv_callV (kc' := 0) (ks' := 0) (As := []) (st9 := [.ref o0]) d_TrustDeskModel_product_25 lV_TrustDeskModel_294 b56 rfl (tc_TrustDeskModel_factor_q3_x (d := d) (x9 := x9) (o0 := o0) t42 R38 E45.1 (by have := R38.1 15 _ _ rfl; have := R38.1 16 _ _ rfl; have := R38.1 19 _ _ rfl; have := E45.f yS; omega) (by have := R38.1 15 _ _ rfl; have := R38.1 16 _ _ rfl; have := R38.1 19 _ _ rfl; have := E45.f yS; omega) f41 I36.start) rfl (Nat.le_of_ble_eq_true rfl) (Nat.le_of_ble_eq_true rfl) (Nat.le_of_ble_eq_true rfl) (hst := rfl) (fun b50r M51 n52 b50 => ?_)
            obtain ⟨T53, J54, rfl, R57, f58, f59, f60⟩ := b50
            have I55 := I36.call J54 (tm_sub (by decide)) (Or.inl rfl)
            have t61 := J54.up t42
            have E62 : rE M0 M51 o0 2 1 := E45.trans f58 (by decide) (yR.2 5 _ _ rfl 44).1 (by decide) (by decide)
            have := f58.w
            obtain ⟨s63, e64⟩ : ∃ s9 : p_S, p_fac pb pn pa (p_op pb pn pa 2) s47 = s9 := ⟨_, rfl⟩
            rw [e64] at f60
            have := f60.w
            refine mv_aload_n d_TrustDeskModel_product_28 rfl rfl ?_
            refine mv_bipush (v := (-3)) d_TrustDeskModel_product_29 (by decide) ?_
            obtain ⟨_, b71, -⟩ := I55.1 _ _ t61
            have : ((-3) : Int32).toInt = (-3) := by decide
            refine mv_callV (kc' := 0) (ks' := 0) (As := [.int (-3)]) (st9 := [.int (-3), .ref o0]) d_TrustDeskModel_product_31 lV_TrustDeskModel_279 b71 rfl (tc_TrustDeskModel_emits_x (d := (d + 11)) (x9 := x9) (o0 := o0) (x1 := (-3)) t61 R57 (by have := R57.1 15 _ _ rfl; have := R57.1 16 _ _ rfl; have := R57.1 19 _ _ rfl; have := E62.f yS; omega) (by decide) I55.start) rfl (Nat.le_of_ble_eq_true rfl) (Nat.le_of_ble_eq_true rfl) (Nat.le_of_ble_eq_true rfl) (hst := rfl) (fun b65r M66 n67 b65 => ?_)
            obtain ⟨T68, J69, rfl, R72, f73⟩ := b65
            have I70 := I55.call J69 (tm_sub (by decide)) (Or.inl rfl)
            have t74 := J69.up t61
            have z75 := (rv_c I55 J69 (I55.up h_o0) (k := 16) rfl)
            have z76 := (rv_c I55 J69 (I55.up h_o0) (k := 17) rfl)
            have z77 := (rv_c I55 J69 (I55.up h_o0) (k := 19) rfl)
            have z78 := (rv_c I55 J69 (I55.up h_o0) (k := 22) rfl)
            have E79 : rE M0 M66 o0 1 0 := E62.emit f73 (rE_hv I55 J69 (I55.up h_o0) 15 19 (by decide)) (yR.2 5 _ _ rfl 44).1 (by decide) (Or.inr (Or.inr ⟨by decide, by decide, by decide, by decide⟩)) (by decide)
            have Z980 : pO M66 o0 pb pn pa s63 := f60.same (rE_hv I55 J69 (I55.up h_o0) 14 20 (by decide)) (rv_c I55 J69 (I55.up h_o0) (k := 23) rfl) (ra_call I55 J69 (I55.up h_o0) (k := 13) rfl rfl rfl)
            refine mv_goto (tgt := 4) d_TrustDeskModel_product_34 (by decide) ?_
            have T81 : ∃ s1 : p_S, pO M66 o0 pb pn pa s1 ∧ p_lp pn (p_pr1 pb pn pa (p_op pb pn pa 2)) s1 = p_pro pb pn pa (p_op pb pn pa 2) ps := ⟨s63, Z980, (by have st : (p_pr1 pb pn pa (p_op pb pn pa 2)) s17 = s63 := (by have := Z918.s4 (by omega) (by omega); rw [show (p_pr1 pb pn pa (p_op pb pn pa 2)) s17 = p_fac pb pn pa (p_op pb pn pa 2) (p_nx s17) from if_pos ⟨by omega, by omega⟩]; simp only [e48, e64]); rw [← st, p_P.go (p_pr1_P (p_op_M _)) s17]; exact e19)⟩
            exact (ih16 T68 M66 n67 I70 t74 (by have := R72.1 15 _ _ rfl; have := R72.1 16 _ _ rfl; have := R72.1 19 _ _ rfl; have := E79.f yS; first | omega | decide | exact fun h9 => absurd (by decide) h9) R72 E79 T81 (by have := R72.1 15 _ _ rfl; have := R72.1 16 _ _ rfl; have := R72.1 19 _ _ rfl; have := E79.f yS; omega))
  have T82 : ∃ s1 : p_S, pO M2 o0 pb pn pa s1 ∧ p_lp pn (p_pr1 pb pn pa (p_op pb pn pa 2)) s1 = p_pro pb pn pa (p_op pb pn pa 2) ps := ⟨s14, f11, (by rw [← e15]; rfl)⟩
  exact mv_less (Nat.zero_le _) (Nat.zero_le _) (L4_16 4294967296 T4 M2 n3 I6 t12 (by have := R8.1 15 _ _ rfl; have := R8.1 16 _ _ rfl; have := R8.1 19 _ _ rfl; have := E13.f yS; first | omega | decide | exact fun h9 => absurd (by decide) h9) R8 E13 T82 (by have := R8.1 15 _ _ rfl; have := R8.1 16 _ _ rfl; have := R8.1 19 _ _ rfl; have := E13.f yS; omega))
def w_TrustDeskModel_sum_q3_x : List Nat := [1315, 1316, 1317, 1318, 1319, 1320, 1322, 20004, 20005]
set_option maxHeartbeats 100000000 in theorem tc_TrustDeskModel_sum_q3_x {g : mj_G} {l : Launch} {d : Nat} {T0 : tm_H} {M0 : mj_M} {n0 x9 : Nat} {o0 : Nat} (h_o0 : T0 o0 = some (0, 13, 0)) (yR : rI M0 o0) (yT : rT M0 o0) (yS : rv M0 o0 19 = 0 → ra M0 o0 5 44 ≤ rv M0 o0 16) (yL : rv M0 o0 19 ≠ 0 ∨ (2 ≤ rv M0 o0 22 ∧ rv M0 o0 22 ≤ 2)) {pb : Nat → Int} {pn : Nat} {pa : Int} {ps : p_S} (yO : pO M0 o0 pb pn pa ps) (I0 : tm_I tm_FT (tm_in w_TrustDeskModel_sum_q3_x) x9 T0 M0 n0 T0 M0 n0) : mj_Met g l kY_TrustDeskModel_sum (d + 14) [.ref o0] M0 n0 0 0 (tm_Q tm_FT (tm_in w_TrustDeskModel_sum_q3_x) x9 T0 M0 n0 (fun r _ M => r = none ∧ rI M o0 ∧ (rE M0 M o0 1 0) ∧ (rv M o0 19 = 0 → rv M o0 22 = rv M0 o0 22) ∧ (pO M o0 pb pn pa (p_sum pb pn pa (p_op pb pn pa 2) ps)))) := by
  refine mj_enter (by decide) (Nat.le_of_ble_eq_true rfl) ?_
  have yE0 := rE.rf yT
  have := yO.w
  refine mv_aload_n d_TrustDeskModel_sum_0 rfl rfl ?_
  obtain ⟨_, b7, -⟩ := I0.1 _ _ h_o0
  refine mv_callV (kc' := 0) (ks' := 0) (As := []) (st9 := [.ref o0]) d_TrustDeskModel_sum_1 lV_TrustDeskModel_297 b7 rfl (tc_TrustDeskModel_product_q3_x (d := d) (x9 := x9) (o0 := o0) h_o0 yR yE0.1 (by have := yR.1 15 _ _ rfl; have := yR.1 16 _ _ rfl; have := yR.1 19 _ _ rfl; have := yE0.f yS; omega) (by have := yR.1 15 _ _ rfl; have := yR.1 16 _ _ rfl; have := yR.1 19 _ _ rfl; have := yE0.f yS; omega) yO I0.start) rfl (Nat.le_of_ble_eq_true rfl) (Nat.le_of_ble_eq_true rfl) (Nat.le_of_ble_eq_true rfl) (hst := rfl) (fun b1r M2 n3 b1 => ?_)
  obtain ⟨T4, J5, rfl, R8, f9, f10, f11⟩ := b1
  have I6 := I0.call J5 (tm_sub (by decide)) (Or.inl rfl)
  have t12 := J5.up h_o0
  have E13 : rE M0 M2 o0 1 0 := yE0.trans f9 (by decide) (yR.2 5 _ _ rfl 44).1 (by decide) (by decide)
  have := f9.w
  obtain ⟨s14, e15⟩ : ∃ s9 : p_S, p_pro pb pn pa (p_op pb pn pa 2) ps = s9 := ⟨_, rfl⟩
  rw [e15] at f11
  have := f11.w
  have L4_16 : ∀ (k : Nat) (T_16 : tm_H) (M_16 : mj_M) (n_16 : Nat), tm_I tm_FT (tm_in w_TrustDeskModel_sum_q3_x) x9 T0 M0 n0 T_16 M_16 n_16 → T_16 o0 = some (0, 13, 0) → (rv M_16 o0 19 = 0 → rv M_16 o0 22 = rv M0 o0 22) → (rI M_16 o0) → (rE M0 M_16 o0 1 0) → (∃ s1 : p_S, pO M_16 o0 pb pn pa s1 ∧ p_lp pn (p_su1 pb pn pa (p_op pb pn pa 2)) s1 = p_sum pb pn pa (p_op pb pn pa 2) ps) → 5 * (401 - rv M_16 o0 16) - rv M_16 o0 19 < (k : Int) → mj_V g l kY_TrustDeskModel_sum (d + 14) 4 [(0, .ref o0)] [] M_16 n_16 0 0 (tm_Q tm_FT (tm_in w_TrustDeskModel_sum_q3_x) x9 T0 M0 n0 (fun r _ M => r = none ∧ rI M o0 ∧ (rE M0 M o0 1 0) ∧ (rv M o0 19 = 0 → rv M o0 22 = rv M0 o0 22) ∧ (pO M o0 pb pn pa (p_sum pb pn pa (p_op pb pn pa 2) ps)))) := by
    intro k16
    induction k16 with
    | zero =>
      intro T_16 M_16 n_16 I_16 h_q0_16 iv0_16 kKR_16 kKE_16 kKT9_16 hk16
      have := kKR_16.1 15 _ _ rfl
      have := kKR_16.1 16 _ _ rfl
      have := kKR_16.1 19 _ _ rfl
      exfalso; omega
    | succ k16 ih16 =>
      intro T_16 M_16 n_16 I_16 h_q0_16 iv0_16 kKR_16 kKE_16 kKT9_16 hk16
      have := kKE_16.f yS
      obtain ⟨s17, Z918, e19⟩ := kKT9_16
      have := Z918.w
      refine mv_aload_n d_TrustDeskModel_sum_4 rfl rfl ?_
      obtain ⟨_, b20, -⟩ := I_16.1 _ _ h_q0_16
      refine mv_callV (kc1 := 0) (ks1 := 0) (kc' := 0) (ks' := 0) (As := []) (st9 := [.ref o0]) d_TrustDeskModel_sum_5 lV_TrustDeskModel_230 b20 rfl (mj_enter (by decide) (Nat.le_of_ble_eq_true rfl) ?_) rfl (Nat.le_of_ble_eq_true rfl) (Nat.le_of_ble_eq_true rfl) (Nat.le_of_ble_eq_true rfl) (hst := rfl) (fun _ _ _ h => h)
      refine mv_aload_n d_TrustDeskModel_isWell_0 rfl rfl ?_
      obtain ⟨v22, q21⟩ := tm_atI I_16 h_q0_16 (k := 19) rfl
      refine tr_getK q21 d_TrustDeskModel_isWell_1 f_TrustDeskModel_224_13 ?_
      have := kKR_16.f (k := 19) q21 rfl
      have := tm_rv q21
      have := mz_hi v22
      refine mv_if_neZ (tgt := 11) (a := v22.toInt) d_TrustDeskModel_isWell_4 (by decide) rfl (fun b23 => ?_) (fun b23 => ?_)
      · refine mv_iconst (v := 0) d_TrustDeskModel_isWell_11 (by decide) ?_
        refine mv_iret d_TrustDeskModel_isWell_12 rfl (by decide) ?_
        refine mv_if_eq_t (tgt := 61) d_TrustDeskModel_sum_8 (by decide) (by decide) ?_
        exact mv_vret d_TrustDeskModel_sum_61 rfl ⟨_, I_16, rfl, kKR_16, kKE_16, (by have := kKR_16.1 15 _ _ rfl; have := kKR_16.1 16 _ _ rfl; have := kKR_16.1 19 _ _ rfl; have := kKE_16.f yS; omega), (by first | (have hX := e19.symm.trans (p_lp_stop (show (p_su1 pb pn pa (p_op pb pn pa 2)) s17 = s17 from if_neg (fun h9 => by omega))); rw [show p_sum pb pn pa (p_op pb pn pa 2) ps = s17 from (by exact hX)]; exact Z918) | (exfalso; have := kKR_16.1 15 _ _ rfl; have := kKR_16.1 16 _ _ rfl; have := kKR_16.1 19 _ _ rfl; have := kKE_16.f yS; omega))⟩
      · refine mv_iconst (v := 1) d_TrustDeskModel_isWell_7 (by decide) ?_
        refine mv_goto (tgt := 12) d_TrustDeskModel_isWell_8 (by decide) ?_
        refine mv_iret d_TrustDeskModel_isWell_12 rfl (by decide) ?_
        refine mv_if_eq_f (tgt := 61) d_TrustDeskModel_sum_8 (by decide) (by decide) ?_
        refine mv_aload_n d_TrustDeskModel_sum_11 rfl rfl ?_
        refine mv_bipush (v := 43) d_TrustDeskModel_sum_12 (by decide) ?_
        obtain ⟨_, b24, -⟩ := I_16.1 _ _ h_q0_16
        refine mv_callV (kc1 := 0) (ks1 := 0) (kc' := 0) (ks' := 0) (As := [.int 43]) (st9 := [.int 43, .ref o0]) d_TrustDeskModel_sum_14 lV_TrustDeskModel_234 b24 rfl (mj_enter (by decide) (Nat.le_of_ble_eq_true rfl) ?_) rfl (Nat.le_of_ble_eq_true rfl) (Nat.le_of_ble_eq_true rfl) (Nat.le_of_ble_eq_true rfl) (hst := rfl) (fun _ _ _ h => h)
        refine mv_aload_n d_TrustDeskModel_isSign_0 rfl rfl ?_
        obtain ⟨v26, q25⟩ := tm_atI I_16 h_q0_16 (k := 17) rfl
        refine tr_getK q25 d_TrustDeskModel_isSign_1 f_TrustDeskModel_198_13 ?_
        have := tm_rv q25
        refine mv_iconst (v := 4) d_TrustDeskModel_isSign_4 (by decide) ?_
        have := mz_hi v26
        refine mv_icmp_neZ (tgt := 20) (a := v26.toInt) (b := 4) d_TrustDeskModel_isSign_5 (by decide) rfl (by decide) (fun b27 => ?_) (fun b27 => ?_)
        · refine mv_iconst (v := 0) d_TrustDeskModel_isSign_20 (by decide) ?_
          refine mv_iret d_TrustDeskModel_isSign_21 rfl (by decide) ?_
          refine mv_if_ne_f (tgt := 29) d_TrustDeskModel_sum_17 (by decide) (by decide) ?_
          refine mv_aload_n d_TrustDeskModel_sum_20 rfl rfl ?_
          refine mv_bipush (v := 45) d_TrustDeskModel_sum_21 (by decide) ?_
          obtain ⟨_, b28, -⟩ := I_16.1 _ _ h_q0_16
          refine mv_callV (kc1 := 0) (ks1 := 0) (kc' := 0) (ks' := 0) (As := [.int 45]) (st9 := [.int 45, .ref o0]) d_TrustDeskModel_sum_23 lV_TrustDeskModel_234 b28 rfl (mj_enter (by decide) (Nat.le_of_ble_eq_true rfl) ?_) rfl (Nat.le_of_ble_eq_true rfl) (Nat.le_of_ble_eq_true rfl) (Nat.le_of_ble_eq_true rfl) (hst := rfl) (fun _ _ _ h => h)
          refine mv_aload_n d_TrustDeskModel_isSign_0 rfl rfl ?_
          refine tr_getK (k := 17) q25 d_TrustDeskModel_isSign_1 f_TrustDeskModel_198_13 ?_
          refine mv_iconst (v := 4) d_TrustDeskModel_isSign_4 (by decide) ?_
          have := mz_hi v26
          refine mv_icmp_neZ (tgt := 20) (a := v26.toInt) (b := 4) d_TrustDeskModel_isSign_5 (by decide) rfl (by decide) (fun b29 => ?_) (fun b29 => absurd b29 (by omega))
          refine mv_iconst (v := 0) d_TrustDeskModel_isSign_20 (by decide) ?_
          refine mv_iret d_TrustDeskModel_isSign_21 rfl (by decide) ?_
          refine mv_if_eq_t (tgt := 61) d_TrustDeskModel_sum_26 (by decide) (by decide) ?_
          exact mv_vret d_TrustDeskModel_sum_61 rfl ⟨_, I_16, rfl, kKR_16, kKE_16, (by have := kKR_16.1 15 _ _ rfl; have := kKR_16.1 16 _ _ rfl; have := kKR_16.1 19 _ _ rfl; have := kKE_16.f yS; omega), (by first | (have := Z918.n4 (by omega) (by omega); have hX := e19.symm.trans (p_lp_stop (show (p_su1 pb pn pa (p_op pb pn pa 2)) s17 = s17 from if_neg (fun h9 => by omega))); rw [show p_sum pb pn pa (p_op pb pn pa 2) ps = s17 from (by exact hX)]; exact Z918) | (exfalso; have := kKR_16.1 15 _ _ rfl; have := kKR_16.1 16 _ _ rfl; have := kKR_16.1 19 _ _ rfl; have := kKE_16.f yS; omega))⟩
        · refine mv_aload_n d_TrustDeskModel_isSign_8 rfl rfl ?_
          obtain ⟨v31, q30⟩ := tm_atI I_16 h_q0_16 (k := 18) rfl
          refine tr_getK q30 d_TrustDeskModel_isSign_9 f_TrustDeskModel_201_13 ?_
          have := kKR_16.f (k := 18) q30 rfl
          have := tm_rv q30
          refine mv_iload_n d_TrustDeskModel_isSign_12 rfl rfl ?_
          have := mz_hi v31
          refine mv_icmp_neZ (tgt := 20) (a := v31.toInt) (b := 43) d_TrustDeskModel_isSign_13 (by decide) rfl (by decide) (fun b32 => ?_) (fun b32 => ?_)
          · refine mv_iconst (v := 0) d_TrustDeskModel_isSign_20 (by decide) ?_
            refine mv_iret d_TrustDeskModel_isSign_21 rfl (by decide) ?_
            refine mv_if_ne_f (tgt := 29) d_TrustDeskModel_sum_17 (by decide) (by decide) ?_
            refine mv_aload_n d_TrustDeskModel_sum_20 rfl rfl ?_
            refine mv_bipush (v := 45) d_TrustDeskModel_sum_21 (by decide) ?_
            obtain ⟨_, b33, -⟩ := I_16.1 _ _ h_q0_16
            refine mv_callV (kc1 := 0) (ks1 := 0) (kc' := 0) (ks' := 0) (As := [.int 45]) (st9 := [.int 45, .ref o0]) d_TrustDeskModel_sum_23 lV_TrustDeskModel_234 b33 rfl (mj_enter (by decide) (Nat.le_of_ble_eq_true rfl) ?_) rfl (Nat.le_of_ble_eq_true rfl) (Nat.le_of_ble_eq_true rfl) (Nat.le_of_ble_eq_true rfl) (hst := rfl) (fun _ _ _ h => h)
            refine mv_aload_n d_TrustDeskModel_isSign_0 rfl rfl ?_
            refine tr_getK (k := 17) q25 d_TrustDeskModel_isSign_1 f_TrustDeskModel_198_13 ?_
            refine mv_iconst (v := 4) d_TrustDeskModel_isSign_4 (by decide) ?_
            have := mz_hi v26
            refine mv_icmp_neZ (tgt := 20) (a := v26.toInt) (b := 4) d_TrustDeskModel_isSign_5 (by decide) rfl (by decide) (fun b34 => absurd b34 (by omega)) (fun b34 => ?_)
            refine mv_aload_n d_TrustDeskModel_isSign_8 rfl rfl ?_
            refine tr_getK (k := 18) q30 d_TrustDeskModel_isSign_9 f_TrustDeskModel_201_13 ?_
            refine mv_iload_n d_TrustDeskModel_isSign_12 rfl rfl ?_
            have := mz_hi v31
            refine mv_icmp_neZ (tgt := 20) (a := v31.toInt) (b := 45) d_TrustDeskModel_isSign_13 (by decide) rfl (by decide) (fun b35 => ?_) (fun b35 => ?_)
            · refine mv_iconst (v := 0) d_TrustDeskModel_isSign_20 (by decide) ?_
              refine mv_iret d_TrustDeskModel_isSign_21 rfl (by decide) ?_
              refine mv_if_eq_t (tgt := 61) d_TrustDeskModel_sum_26 (by decide) (by decide) ?_
              exact mv_vret d_TrustDeskModel_sum_61 rfl ⟨_, I_16, rfl, kKR_16, kKE_16, (by have := kKR_16.1 15 _ _ rfl; have := kKR_16.1 16 _ _ rfl; have := kKR_16.1 19 _ _ rfl; have := kKE_16.f yS; omega), (by first | (have := Z918.s4 (by omega) (by omega); have hX := e19.symm.trans (p_lp_stop (show (p_su1 pb pn pa (p_op pb pn pa 2)) s17 = s17 from if_neg (fun h9 => by omega))); rw [show p_sum pb pn pa (p_op pb pn pa 2) ps = s17 from (by exact hX)]; exact Z918) | (exfalso; have := kKR_16.1 15 _ _ rfl; have := kKR_16.1 16 _ _ rfl; have := kKR_16.1 19 _ _ rfl; have := kKE_16.f yS; omega))⟩
            · refine mv_iconst (v := 1) d_TrustDeskModel_isSign_16 (by decide) ?_
              refine mv_goto (tgt := 21) d_TrustDeskModel_isSign_17 (by decide) ?_
              refine mv_iret d_TrustDeskModel_isSign_21 rfl (by decide) ?_
              refine mv_if_eq_f (tgt := 61) d_TrustDeskModel_sum_26 (by decide) (by decide) ?_
              refine mv_aload_n d_TrustDeskModel_sum_29 rfl rfl ?_
              refine mv_bipush (v := 43) d_TrustDeskModel_sum_30 (by decide) ?_
              obtain ⟨_, b36, -⟩ := I_16.1 _ _ h_q0_16
              refine mv_callV (kc1 := 0) (ks1 := 0) (kc' := 0) (ks' := 0) (As := [.int 43]) (st9 := [.int 43, .ref o0]) d_TrustDeskModel_sum_32 lV_TrustDeskModel_234 b36 rfl (mj_enter (by decide) (Nat.le_of_ble_eq_true rfl) ?_) rfl (Nat.le_of_ble_eq_true rfl) (Nat.le_of_ble_eq_true rfl) (Nat.le_of_ble_eq_true rfl) (hst := rfl) (fun _ _ _ h => h)
              refine mv_aload_n d_TrustDeskModel_isSign_0 rfl rfl ?_
              refine tr_getK (k := 17) q25 d_TrustDeskModel_isSign_1 f_TrustDeskModel_198_13 ?_
              refine mv_iconst (v := 4) d_TrustDeskModel_isSign_4 (by decide) ?_
              have := mz_hi v26
              refine mv_icmp_neZ (tgt := 20) (a := v26.toInt) (b := 4) d_TrustDeskModel_isSign_5 (by decide) rfl (by decide) (fun b37 => absurd b37 (by omega)) (fun b37 => ?_)
              refine mv_aload_n d_TrustDeskModel_isSign_8 rfl rfl ?_
              refine tr_getK (k := 18) q30 d_TrustDeskModel_isSign_9 f_TrustDeskModel_201_13 ?_
              refine mv_iload_n d_TrustDeskModel_isSign_12 rfl rfl ?_
              have := mz_hi v31
              refine mv_icmp_neZ (tgt := 20) (a := v31.toInt) (b := 43) d_TrustDeskModel_isSign_13 (by decide) rfl (by decide) (fun b38 => ?_) (fun b38 => absurd b38 (by omega))
              refine mv_iconst (v := 0) d_TrustDeskModel_isSign_20 (by decide) ?_
              refine mv_iret d_TrustDeskModel_isSign_21 rfl (by decide) ?_
              refine mv_istore_n (lv' := [(1, .int 0), (0, .ref o0)]) d_TrustDeskModel_sum_35 rfl (by decide) rfl ?_
              refine mv_aload_n d_TrustDeskModel_sum_36 rfl rfl ?_
              obtain ⟨_, b45, -⟩ := I_16.1 _ _ h_q0_16
              refine mv_callV (kc' := 0) (ks' := 0) (As := []) (st9 := [.ref o0]) d_TrustDeskModel_sum_37 lV_TrustDeskModel_237 b45 rfl (tc_TrustDeskModel_next_x (d := (d + 12)) (x9 := x9) (o0 := o0) h_q0_16 kKR_16 Z918.p I_16.start) rfl (Nat.le_of_ble_eq_true rfl) (Nat.le_of_ble_eq_true rfl) (Nat.le_of_ble_eq_true rfl) (hst := rfl) (fun b39r M40 n41 b39 => ?_)
              obtain ⟨T42, J43, rfl, R46, f47, f48, f49⟩ := b39
              have I44 := I_16.call J43 (tm_sub (by decide)) (Or.inl rfl)
              have t50 := J43.up h_q0_16
              have z51 := (rv_c I_16 J43 (I_16.up h_o0) (k := 19) rfl)
              have z52 := (rv_c I_16 J43 (I_16.up h_o0) (k := 22) rfl)
              have h54 : rv M_16 o0 16 + 1 ≤ rv M_16 o0 15 := (by have := kKR_16.1 15 _ _ rfl; have := kKR_16.1 16 _ _ rfl; have := kKR_16.1 19 _ _ rfl; have := kKE_16.f yS; omega)
              have E53 : rE M0 M40 o0 1 1 := kKE_16.next f47 f48 (rv_c I_16 J43 (I_16.up h_o0) (k := 19) rfl) (rE_ha I_16 J43 (I_16.up h_o0) (by decide)) (e := 1) h54 (by decide)
              obtain ⟨s55, e56⟩ : ∃ s9 : p_S, p_nx s17 = s9 := ⟨_, rfl⟩
              rw [e56] at f49
              have := f49.w
              have q57 := J43.keep h_q0_16 (by decide) q21
              refine mv_aload_n d_TrustDeskModel_sum_40 rfl rfl ?_
              obtain ⟨_, b64, -⟩ := I44.1 _ _ t50
              refine mv_callV (kc' := 0) (ks' := 0) (As := []) (st9 := [.ref o0]) d_TrustDeskModel_sum_41 lV_TrustDeskModel_297 b64 rfl (tc_TrustDeskModel_product_q3_x (d := d) (x9 := x9) (o0 := o0) t50 R46 E53.1 (by have := R46.1 15 _ _ rfl; have := R46.1 16 _ _ rfl; have := R46.1 19 _ _ rfl; have := E53.f yS; omega) (by have := R46.1 15 _ _ rfl; have := R46.1 16 _ _ rfl; have := R46.1 19 _ _ rfl; have := E53.f yS; omega) f49 I44.start) rfl (Nat.le_of_ble_eq_true rfl) (Nat.le_of_ble_eq_true rfl) (Nat.le_of_ble_eq_true rfl) (hst := rfl) (fun b58r M59 n60 b58 => ?_)
              obtain ⟨T61, J62, rfl, R65, f66, f67, f68⟩ := b58
              have I63 := I44.call J62 (tm_sub (by decide)) (Or.inl rfl)
              have t69 := J62.up t50
              have E70 : rE M0 M59 o0 2 1 := E53.trans f66 (by decide) (yR.2 5 _ _ rfl 44).1 (by decide) (by decide)
              have := f66.w
              obtain ⟨s71, e72⟩ : ∃ s9 : p_S, p_pro pb pn pa (p_op pb pn pa 2) s55 = s9 := ⟨_, rfl⟩
              rw [e72] at f68
              have := f68.w
              refine mv_aload_n d_TrustDeskModel_sum_44 rfl rfl ?_
              refine mv_iload_n d_TrustDeskModel_sum_45 rfl rfl ?_
              refine mv_if_eq_t (tgt := 53) d_TrustDeskModel_sum_46 (by decide) (by decide) ?_
              refine mv_bipush (v := (-2)) d_TrustDeskModel_sum_53 (by decide) ?_
              obtain ⟨_, b79, -⟩ := I63.1 _ _ t69
              have : ((-2) : Int32).toInt = (-2) := by decide
              refine mv_callV (kc' := 0) (ks' := 0) (As := [.int (-2)]) (st9 := [.int (-2), .ref o0]) d_TrustDeskModel_sum_55 lV_TrustDeskModel_279 b79 rfl (tc_TrustDeskModel_emits_x (d := (d + 12)) (x9 := x9) (o0 := o0) (x1 := (-2)) t69 R65 (by have := R65.1 15 _ _ rfl; have := R65.1 16 _ _ rfl; have := R65.1 19 _ _ rfl; have := E70.f yS; omega) (by decide) I63.start) rfl (Nat.le_of_ble_eq_true rfl) (Nat.le_of_ble_eq_true rfl) (Nat.le_of_ble_eq_true rfl) (hst := rfl) (fun b73r M74 n75 b73 => ?_)
              obtain ⟨T76, J77, rfl, R80, f81⟩ := b73
              have I78 := I63.call J77 (tm_sub (by decide)) (Or.inl rfl)
              have t82 := J77.up t69
              have z83 := (rv_c I63 J77 (I63.up h_o0) (k := 16) rfl)
              have z84 := (rv_c I63 J77 (I63.up h_o0) (k := 17) rfl)
              have z85 := (rv_c I63 J77 (I63.up h_o0) (k := 19) rfl)
              have z86 := (rv_c I63 J77 (I63.up h_o0) (k := 22) rfl)
              have E87 : rE M0 M74 o0 1 0 := E70.emit f81 (rE_hv I63 J77 (I63.up h_o0) 15 19 (by decide)) (yR.2 5 _ _ rfl 44).1 (by decide) (Or.inr (Or.inr ⟨by decide, by decide, by decide, by decide⟩)) (by decide)
              have Z988 : pO M74 o0 pb pn pa s71 := f68.same (rE_hv I63 J77 (I63.up h_o0) 14 20 (by decide)) (rv_c I63 J77 (I63.up h_o0) (k := 23) rfl) (ra_call I63 J77 (I63.up h_o0) (k := 13) rfl rfl rfl)
              refine mv_goto (tgt := 4) d_TrustDeskModel_sum_58 (by decide) ?_
              have T89 : ∃ s1 : p_S, pO M74 o0 pb pn pa s1 ∧ p_lp pn (p_su1 pb pn pa (p_op pb pn pa 2)) s1 = p_sum pb pn pa (p_op pb pn pa 2) ps := ⟨s71, Z988, (by have st : (p_su1 pb pn pa (p_op pb pn pa 2)) s17 = s71 := (by have := Z918.s4 (by omega) (by omega); rw [show (p_su1 pb pn pa (p_op pb pn pa 2)) s17 = p_pro pb pn pa (p_op pb pn pa 2) (p_nx s17) from if_pos ⟨by omega, by omega⟩]; simp only [e56, e72]); rw [← st, p_P.go (p_su1_P (p_op_M _)) s17]; exact e19)⟩
              refine mv_locals (lv' := [(0, .ref o0)]) (by intro q hq; simp only [List.mem_cons, List.not_mem_nil, or_false] at hq; rcases hq with rfl <;> rfl) ?_
              exact (ih16 T76 M74 n75 I78 t82 (by have := R80.1 15 _ _ rfl; have := R80.1 16 _ _ rfl; have := R80.1 19 _ _ rfl; have := E87.f yS; first | omega | decide | exact fun h9 => absurd (by decide) h9) R80 E87 T89 (by have := R80.1 15 _ _ rfl; have := R80.1 16 _ _ rfl; have := R80.1 19 _ _ rfl; have := E87.f yS; omega))
          · refine mv_iconst (v := 1) d_TrustDeskModel_isSign_16 (by decide) ?_
            refine mv_goto (tgt := 21) d_TrustDeskModel_isSign_17 (by decide) ?_
            refine mv_iret d_TrustDeskModel_isSign_21 rfl (by decide) ?_
            refine mv_if_ne_t (tgt := 29) d_TrustDeskModel_sum_17 (by decide) (by decide) ?_
            refine mv_aload_n d_TrustDeskModel_sum_29 rfl rfl ?_
            refine mv_bipush (v := 43) d_TrustDeskModel_sum_30 (by decide) ?_
            obtain ⟨_, b90, -⟩ := I_16.1 _ _ h_q0_16
            refine mv_callV (kc1 := 0) (ks1 := 0) (kc' := 0) (ks' := 0) (As := [.int 43]) (st9 := [.int 43, .ref o0]) d_TrustDeskModel_sum_32 lV_TrustDeskModel_234 b90 rfl (mj_enter (by decide) (Nat.le_of_ble_eq_true rfl) ?_) rfl (Nat.le_of_ble_eq_true rfl) (Nat.le_of_ble_eq_true rfl) (Nat.le_of_ble_eq_true rfl) (hst := rfl) (fun _ _ _ h => h)
            refine mv_aload_n d_TrustDeskModel_isSign_0 rfl rfl ?_
            refine tr_getK (k := 17) q25 d_TrustDeskModel_isSign_1 f_TrustDeskModel_198_13 ?_
            refine mv_iconst (v := 4) d_TrustDeskModel_isSign_4 (by decide) ?_
            have := mz_hi v26
            refine mv_icmp_neZ (tgt := 20) (a := v26.toInt) (b := 4) d_TrustDeskModel_isSign_5 (by decide) rfl (by decide) (fun b91 => absurd b91 (by omega)) (fun b91 => ?_)
            refine mv_aload_n d_TrustDeskModel_isSign_8 rfl rfl ?_
            refine tr_getK (k := 18) q30 d_TrustDeskModel_isSign_9 f_TrustDeskModel_201_13 ?_
            refine mv_iload_n d_TrustDeskModel_isSign_12 rfl rfl ?_
            have := mz_hi v31
            refine mv_icmp_neZ (tgt := 20) (a := v31.toInt) (b := 43) d_TrustDeskModel_isSign_13 (by decide) rfl (by decide) (fun b92 => absurd b92 (by omega)) (fun b92 => ?_)
            refine mv_iconst (v := 1) d_TrustDeskModel_isSign_16 (by decide) ?_
            refine mv_goto (tgt := 21) d_TrustDeskModel_isSign_17 (by decide) ?_
            refine mv_iret d_TrustDeskModel_isSign_21 rfl (by decide) ?_
            refine mv_istore_n (lv' := [(1, .int 1), (0, .ref o0)]) d_TrustDeskModel_sum_35 rfl (by decide) rfl ?_
            refine mv_aload_n d_TrustDeskModel_sum_36 rfl rfl ?_
            obtain ⟨_, b99, -⟩ := I_16.1 _ _ h_q0_16
            refine mv_callV (kc' := 0) (ks' := 0) (As := []) (st9 := [.ref o0]) d_TrustDeskModel_sum_37 lV_TrustDeskModel_237 b99 rfl (tc_TrustDeskModel_next_x (d := (d + 12)) (x9 := x9) (o0 := o0) h_q0_16 kKR_16 Z918.p I_16.start) rfl (Nat.le_of_ble_eq_true rfl) (Nat.le_of_ble_eq_true rfl) (Nat.le_of_ble_eq_true rfl) (hst := rfl) (fun b93r M94 n95 b93 => ?_)
            obtain ⟨T96, J97, rfl, R100, f101, f102, f103⟩ := b93
            have I98 := I_16.call J97 (tm_sub (by decide)) (Or.inl rfl)
            have t104 := J97.up h_q0_16
            have z105 := (rv_c I_16 J97 (I_16.up h_o0) (k := 19) rfl)
            have z106 := (rv_c I_16 J97 (I_16.up h_o0) (k := 22) rfl)
            have h108 : rv M_16 o0 16 + 1 ≤ rv M_16 o0 15 := (by have := kKR_16.1 15 _ _ rfl; have := kKR_16.1 16 _ _ rfl; have := kKR_16.1 19 _ _ rfl; have := kKE_16.f yS; omega)
            have E107 : rE M0 M94 o0 1 1 := kKE_16.next f101 f102 (rv_c I_16 J97 (I_16.up h_o0) (k := 19) rfl) (rE_ha I_16 J97 (I_16.up h_o0) (by decide)) (e := 1) h108 (by decide)
            obtain ⟨s109, e110⟩ : ∃ s9 : p_S, p_nx s17 = s9 := ⟨_, rfl⟩
            rw [e110] at f103
            have := f103.w
            have q111 := J97.keep h_q0_16 (by decide) q21
            refine mv_aload_n d_TrustDeskModel_sum_40 rfl rfl ?_
            obtain ⟨_, b118, -⟩ := I98.1 _ _ t104
            refine mv_callV (kc' := 0) (ks' := 0) (As := []) (st9 := [.ref o0]) d_TrustDeskModel_sum_41 lV_TrustDeskModel_297 b118 rfl (tc_TrustDeskModel_product_q3_x (d := d) (x9 := x9) (o0 := o0) t104 R100 E107.1 (by have := R100.1 15 _ _ rfl; have := R100.1 16 _ _ rfl; have := R100.1 19 _ _ rfl; have := E107.f yS; omega) (by have := R100.1 15 _ _ rfl; have := R100.1 16 _ _ rfl; have := R100.1 19 _ _ rfl; have := E107.f yS; omega) f103 I98.start) rfl (Nat.le_of_ble_eq_true rfl) (Nat.le_of_ble_eq_true rfl) (Nat.le_of_ble_eq_true rfl) (hst := rfl) (fun b112r M113 n114 b112 => ?_)
            obtain ⟨T115, J116, rfl, R119, f120, f121, f122⟩ := b112
            have I117 := I98.call J116 (tm_sub (by decide)) (Or.inl rfl)
            have t123 := J116.up t104
            have E124 : rE M0 M113 o0 2 1 := E107.trans f120 (by decide) (yR.2 5 _ _ rfl 44).1 (by decide) (by decide)
            have := f120.w
            obtain ⟨s125, e126⟩ : ∃ s9 : p_S, p_pro pb pn pa (p_op pb pn pa 2) s109 = s9 := ⟨_, rfl⟩
            rw [e126] at f122
            have := f122.w
            refine mv_aload_n d_TrustDeskModel_sum_44 rfl rfl ?_
            refine mv_iload_n d_TrustDeskModel_sum_45 rfl rfl ?_
            refine mv_if_eq_f (tgt := 53) d_TrustDeskModel_sum_46 (by decide) (by decide) ?_
            refine mv_iconst (v := (-1)) d_TrustDeskModel_sum_49 (by decide) ?_
            refine mv_goto (tgt := 55) d_TrustDeskModel_sum_50 (by decide) ?_
            obtain ⟨_, b133, -⟩ := I117.1 _ _ t123
            have : ((-1) : Int32).toInt = (-1) := by decide
            refine mv_callV (kc' := 0) (ks' := 0) (As := [.int (-1)]) (st9 := [.int (-1), .ref o0]) d_TrustDeskModel_sum_55 lV_TrustDeskModel_279 b133 rfl (tc_TrustDeskModel_emits_x (d := (d + 12)) (x9 := x9) (o0 := o0) (x1 := (-1)) t123 R119 (by have := R119.1 15 _ _ rfl; have := R119.1 16 _ _ rfl; have := R119.1 19 _ _ rfl; have := E124.f yS; omega) (by decide) I117.start) rfl (Nat.le_of_ble_eq_true rfl) (Nat.le_of_ble_eq_true rfl) (Nat.le_of_ble_eq_true rfl) (hst := rfl) (fun b127r M128 n129 b127 => ?_)
            obtain ⟨T130, J131, rfl, R134, f135⟩ := b127
            have I132 := I117.call J131 (tm_sub (by decide)) (Or.inl rfl)
            have t136 := J131.up t123
            have z137 := (rv_c I117 J131 (I117.up h_o0) (k := 16) rfl)
            have z138 := (rv_c I117 J131 (I117.up h_o0) (k := 17) rfl)
            have z139 := (rv_c I117 J131 (I117.up h_o0) (k := 19) rfl)
            have z140 := (rv_c I117 J131 (I117.up h_o0) (k := 22) rfl)
            have E141 : rE M0 M128 o0 1 0 := E124.emit f135 (rE_hv I117 J131 (I117.up h_o0) 15 19 (by decide)) (yR.2 5 _ _ rfl 44).1 (by decide) (Or.inr (Or.inr ⟨by decide, by decide, by decide, by decide⟩)) (by decide)
            have Z9142 : pO M128 o0 pb pn pa s125 := f122.same (rE_hv I117 J131 (I117.up h_o0) 14 20 (by decide)) (rv_c I117 J131 (I117.up h_o0) (k := 23) rfl) (ra_call I117 J131 (I117.up h_o0) (k := 13) rfl rfl rfl)
            refine mv_goto (tgt := 4) d_TrustDeskModel_sum_58 (by decide) ?_
            have T143 : ∃ s1 : p_S, pO M128 o0 pb pn pa s1 ∧ p_lp pn (p_su1 pb pn pa (p_op pb pn pa 2)) s1 = p_sum pb pn pa (p_op pb pn pa 2) ps := ⟨s125, Z9142, (by have st : (p_su1 pb pn pa (p_op pb pn pa 2)) s17 = s125 := (by have := Z918.s4 (by omega) (by omega); rw [show (p_su1 pb pn pa (p_op pb pn pa 2)) s17 = p_pro pb pn pa (p_op pb pn pa 2) (p_nx s17) from if_pos ⟨by omega, by omega⟩]; simp only [e110, e126]); rw [← st, p_P.go (p_su1_P (p_op_M _)) s17]; exact e19)⟩
            refine mv_locals (lv' := [(0, .ref o0)]) (by intro q hq; simp only [List.mem_cons, List.not_mem_nil, or_false] at hq; rcases hq with rfl <;> rfl) ?_
            exact (ih16 T130 M128 n129 I132 t136 (by have := R134.1 15 _ _ rfl; have := R134.1 16 _ _ rfl; have := R134.1 19 _ _ rfl; have := E141.f yS; first | omega | decide | exact fun h9 => absurd (by decide) h9) R134 E141 T143 (by have := R134.1 15 _ _ rfl; have := R134.1 16 _ _ rfl; have := R134.1 19 _ _ rfl; have := E141.f yS; omega))
  have T144 : ∃ s1 : p_S, pO M2 o0 pb pn pa s1 ∧ p_lp pn (p_su1 pb pn pa (p_op pb pn pa 2)) s1 = p_sum pb pn pa (p_op pb pn pa 2) ps := ⟨s14, f11, (by rw [← e15]; rfl)⟩
  exact mv_less (Nat.zero_le _) (Nat.zero_le _) (L4_16 4294967296 T4 M2 n3 I6 t12 (by have := R8.1 15 _ _ rfl; have := R8.1 16 _ _ rfl; have := R8.1 19 _ _ rfl; have := E13.f yS; first | omega | decide | exact fun h9 => absurd (by decide) h9) R8 E13 T144 (by have := R8.1 15 _ _ rfl; have := R8.1 16 _ _ rfl; have := R8.1 19 _ _ rfl; have := E13.f yS; omega))
def w_TrustDeskModel_factor_q4_x : List Nat := [1315, 1316, 1317, 1318, 1319, 1320, 1322, 20004, 20005]
set_option maxHeartbeats 100000000 in theorem tc_TrustDeskModel_factor_q4_x {g : mj_G} {l : Launch} {d : Nat} {T0 : tm_H} {M0 : mj_M} {n0 x9 : Nat} {o0 : Nat} (h_o0 : T0 o0 = some (0, 13, 0)) (yR : rI M0 o0) (yT : rT M0 o0) (yS : rv M0 o0 19 = 0 → ra M0 o0 5 44 ≤ rv M0 o0 16) (yL : rv M0 o0 19 ≠ 0 ∨ (1 ≤ rv M0 o0 22 ∧ rv M0 o0 22 ≤ 1)) {pb : Nat → Int} {pn : Nat} {pa : Int} {ps : p_S} (yO : pO M0 o0 pb pn pa ps) (I0 : tm_I tm_FT (tm_in w_TrustDeskModel_factor_q4_x) x9 T0 M0 n0 T0 M0 n0) : mj_Met g l kY_TrustDeskModel_factor (d + 15) [.ref o0] M0 n0 0 0 (tm_Q tm_FT (tm_in w_TrustDeskModel_factor_q4_x) x9 T0 M0 n0 (fun r _ M => r = none ∧ rI M o0 ∧ (rE M0 M o0 1 0) ∧ (rv M o0 19 = 0 → rv M o0 22 = rv M0 o0 22) ∧ (pO M o0 pb pn pa (p_fac pb pn pa (p_op pb pn pa 3) ps)))) := by
  refine mj_enter (by decide) (Nat.le_of_ble_eq_true rfl) ?_
  have yE0 := rE.rf yT
  have := yO.w
  refine mv_aload_n d_TrustDeskModel_factor_0 rfl rfl ?_
  obtain ⟨_, b1, -⟩ := I0.1 _ _ h_o0
  refine mv_callV (kc1 := 0) (ks1 := 0) (kc' := 0) (ks' := 0) (As := []) (st9 := [.ref o0]) d_TrustDeskModel_factor_1 lV_TrustDeskModel_230 b1 rfl (mj_enter (by decide) (Nat.le_of_ble_eq_true rfl) ?_) rfl (Nat.le_of_ble_eq_true rfl) (Nat.le_of_ble_eq_true rfl) (Nat.le_of_ble_eq_true rfl) (hst := rfl) (fun _ _ _ h => h)
  refine mv_aload_n d_TrustDeskModel_isWell_0 rfl rfl ?_
  obtain ⟨v3, q2⟩ := tm_atI I0 h_o0 (k := 19) rfl
  refine tr_getK q2 d_TrustDeskModel_isWell_1 f_TrustDeskModel_224_13 ?_
  have := yR.f (k := 19) q2 rfl
  have := tm_rv q2
  have := mz_hi v3
  refine mv_if_neZ (tgt := 11) (a := v3.toInt) d_TrustDeskModel_isWell_4 (by decide) rfl (fun b4 => ?_) (fun b4 => ?_)
  · refine mv_iconst (v := 0) d_TrustDeskModel_isWell_11 (by decide) ?_
    refine mv_iret d_TrustDeskModel_isWell_12 rfl (by decide) ?_
    refine mv_if_ne_f (tgt := 8) d_TrustDeskModel_factor_4 (by decide) (by decide) ?_
    exact mv_vret d_TrustDeskModel_factor_7 rfl ⟨_, I0, rfl, yR, yE0.vac (by have := yR.1 15 _ _ rfl; have := yR.1 16 _ _ rfl; have := yR.1 19 _ _ rfl; have := yE0.f yS; omega) 1 0, (by have := yR.1 15 _ _ rfl; have := yR.1 16 _ _ rfl; have := yR.1 19 _ _ rfl; have := yE0.f yS; omega), (by first | (rw [show p_fac pb pn pa (p_op pb pn pa 3) ps = ps from (by have hop : (p_op pb pn pa 3) ps = p_sg pb pn 41 (p_sum pb pn pa (p_op pb pn pa 2) (p_nx ps)) := rfl; unfold p_fac; (try simp only [hop]); skip; ((repeat' (first | (with_reducible rfl) | split)) <;> (exfalso; omega)))]; exact yO) | (exfalso; have := yR.1 15 _ _ rfl; have := yR.1 16 _ _ rfl; have := yR.1 19 _ _ rfl; have := yE0.f yS; omega))⟩
  · refine mv_iconst (v := 1) d_TrustDeskModel_isWell_7 (by decide) ?_
    refine mv_goto (tgt := 12) d_TrustDeskModel_isWell_8 (by decide) ?_
    refine mv_iret d_TrustDeskModel_isWell_12 rfl (by decide) ?_
    refine mv_if_ne_t (tgt := 8) d_TrustDeskModel_factor_4 (by decide) (by decide) ?_
    refine mv_aload_n d_TrustDeskModel_factor_8 rfl rfl ?_
    obtain ⟨v6, q5⟩ := tm_atI I0 h_o0 (k := 17) rfl
    refine tr_getK q5 d_TrustDeskModel_factor_9 f_TrustDeskModel_198_13 ?_
    have := tm_rv q5
    refine mv_iconst (v := 2) d_TrustDeskModel_factor_12 (by decide) ?_
    have := mz_hi v6
    refine mv_icmp_neZ (tgt := 31) (a := v6.toInt) (b := 2) d_TrustDeskModel_factor_13 (by decide) rfl (by decide) (fun b7 => ?_) (fun b7 => ?_)
    · refine mv_aload_n d_TrustDeskModel_factor_31 rfl rfl ?_
      refine tr_getK (k := 17) q5 d_TrustDeskModel_factor_32 f_TrustDeskModel_198_13 ?_
      refine mv_iconst (v := 3) d_TrustDeskModel_factor_35 (by decide) ?_
      have := mz_hi v6
      refine mv_icmp_neZ (tgt := 77) (a := v6.toInt) (b := 3) d_TrustDeskModel_factor_36 (by decide) rfl (by decide) (fun b8 => ?_) (fun b8 => ?_)
      · refine mv_aload_n d_TrustDeskModel_factor_77 rfl rfl ?_
        refine mv_bipush (v := 40) d_TrustDeskModel_factor_78 (by decide) ?_
        obtain ⟨_, b9, -⟩ := I0.1 _ _ h_o0
        refine mv_callV (kc1 := 0) (ks1 := 0) (kc' := 0) (ks' := 0) (As := [.int 40]) (st9 := [.int 40, .ref o0]) d_TrustDeskModel_factor_80 lV_TrustDeskModel_234 b9 rfl (mj_enter (by decide) (Nat.le_of_ble_eq_true rfl) ?_) rfl (Nat.le_of_ble_eq_true rfl) (Nat.le_of_ble_eq_true rfl) (Nat.le_of_ble_eq_true rfl) (hst := rfl) (fun _ _ _ h => h)
        refine mv_aload_n d_TrustDeskModel_isSign_0 rfl rfl ?_
        refine tr_getK (k := 17) q5 d_TrustDeskModel_isSign_1 f_TrustDeskModel_198_13 ?_
        refine mv_iconst (v := 4) d_TrustDeskModel_isSign_4 (by decide) ?_
        have := mz_hi v6
        refine mv_icmp_neZ (tgt := 20) (a := v6.toInt) (b := 4) d_TrustDeskModel_isSign_5 (by decide) rfl (by decide) (fun b10 => ?_) (fun b10 => ?_)
        · refine mv_iconst (v := 0) d_TrustDeskModel_isSign_20 (by decide) ?_
          refine mv_iret d_TrustDeskModel_isSign_21 rfl (by decide) ?_
          refine mv_if_eq_t (tgt := 113) d_TrustDeskModel_factor_83 (by decide) (by decide) ?_
          refine mv_aload_n d_TrustDeskModel_factor_113 rfl rfl ?_
          refine mv_iconst (v := 1) d_TrustDeskModel_factor_114 (by decide) ?_
          obtain ⟨_, b17, -⟩ := I0.1 _ _ h_o0
          have : (1 : Int32).toInt = 1 := by decide
          refine mv_callV (kc' := 0) (ks' := 0) (As := [.int 1]) (st9 := [.int 1, .ref o0]) d_TrustDeskModel_factor_115 lV_TrustDeskModel_240 b17 rfl (tc_TrustDeskModel_fails_x (d := (d + 14)) (x9 := x9) (o0 := o0) (x1 := 1) h_o0 yR (by decide) yO I0.start) rfl (Nat.le_of_ble_eq_true rfl) (Nat.le_of_ble_eq_true rfl) (Nat.le_of_ble_eq_true rfl) (hst := rfl) (fun b11r M12 n13 b11 => ?_)
          obtain ⟨T14, J15, rfl, R18, f19, f20⟩ := b11
          have I16 := I0.call J15 (tm_sub (by decide)) (Or.inl rfl)
          have t21 := J15.up h_o0
          have z22 := (rv_c I0 J15 (I0.up h_o0) (k := 16) rfl)
          have z23 := (rv_c I0 J15 (I0.up h_o0) (k := 17) rfl)
          have z24 := (rv_c I0 J15 (I0.up h_o0) (k := 22) rfl)
          have E25 : rE M0 M12 o0 0 0 := yE0.fails (rE_hv I0 J15 (I0.up h_o0) 15 18 (by decide)) (rE_ha I0 J15 (I0.up h_o0) (by decide)) f19 0 0
          rw [show (1 : Int32).toInt = 1 from by decide] at f20
          obtain ⟨s26, e27⟩ : ∃ s9 : p_S, p_fl pb pn 1 ps = s9 := ⟨_, rfl⟩
          rw [e27] at f20
          have := f20.w
          have q28 := J15.keep h_o0 (by decide) q5
          exact mv_vret d_TrustDeskModel_factor_118 rfl ⟨_, I16, rfl, R18, E25.vac (by have := R18.1 15 _ _ rfl; have := R18.1 16 _ _ rfl; have := R18.1 19 _ _ rfl; have := E25.f yS; omega) 1 0, (by have := R18.1 15 _ _ rfl; have := R18.1 16 _ _ rfl; have := R18.1 19 _ _ rfl; have := E25.f yS; omega), (by first | (have := yO.n4 (by omega) (by omega); have := yO.n3 (by omega) (by omega); have := yO.n2 (by omega) (by omega); rw [show p_fac pb pn pa (p_op pb pn pa 3) ps = s26 from (by have hop : (p_op pb pn pa 3) ps = p_sg pb pn 41 (p_sum pb pn pa (p_op pb pn pa 2) (p_nx ps)) := rfl; unfold p_fac; (try simp only [hop]); (try simp only [e27]); ((repeat' (first | (with_reducible rfl) | split)) <;> (exfalso; omega)))]; exact f20) | (exfalso; have := R18.1 15 _ _ rfl; have := R18.1 16 _ _ rfl; have := R18.1 19 _ _ rfl; have := E25.f yS; omega))⟩
        · refine mv_aload_n d_TrustDeskModel_isSign_8 rfl rfl ?_
          obtain ⟨v30, q29⟩ := tm_atI I0 h_o0 (k := 18) rfl
          refine tr_getK q29 d_TrustDeskModel_isSign_9 f_TrustDeskModel_201_13 ?_
          have := yR.f (k := 18) q29 rfl
          have := tm_rv q29
          refine mv_iload_n d_TrustDeskModel_isSign_12 rfl rfl ?_
          have := mz_hi v30
          refine mv_icmp_neZ (tgt := 20) (a := v30.toInt) (b := 40) d_TrustDeskModel_isSign_13 (by decide) rfl (by decide) (fun b31 => ?_) (fun b31 => ?_)
          · refine mv_iconst (v := 0) d_TrustDeskModel_isSign_20 (by decide) ?_
            refine mv_iret d_TrustDeskModel_isSign_21 rfl (by decide) ?_
            refine mv_if_eq_t (tgt := 113) d_TrustDeskModel_factor_83 (by decide) (by decide) ?_
            refine mv_aload_n d_TrustDeskModel_factor_113 rfl rfl ?_
            refine mv_iconst (v := 1) d_TrustDeskModel_factor_114 (by decide) ?_
            obtain ⟨_, b38, -⟩ := I0.1 _ _ h_o0
            have : (1 : Int32).toInt = 1 := by decide
            refine mv_callV (kc' := 0) (ks' := 0) (As := [.int 1]) (st9 := [.int 1, .ref o0]) d_TrustDeskModel_factor_115 lV_TrustDeskModel_240 b38 rfl (tc_TrustDeskModel_fails_x (d := (d + 14)) (x9 := x9) (o0 := o0) (x1 := 1) h_o0 yR (by decide) yO I0.start) rfl (Nat.le_of_ble_eq_true rfl) (Nat.le_of_ble_eq_true rfl) (Nat.le_of_ble_eq_true rfl) (hst := rfl) (fun b32r M33 n34 b32 => ?_)
            obtain ⟨T35, J36, rfl, R39, f40, f41⟩ := b32
            have I37 := I0.call J36 (tm_sub (by decide)) (Or.inl rfl)
            have t42 := J36.up h_o0
            have z43 := (rv_c I0 J36 (I0.up h_o0) (k := 16) rfl)
            have z44 := (rv_c I0 J36 (I0.up h_o0) (k := 17) rfl)
            have z45 := (rv_c I0 J36 (I0.up h_o0) (k := 22) rfl)
            have E46 : rE M0 M33 o0 0 0 := yE0.fails (rE_hv I0 J36 (I0.up h_o0) 15 18 (by decide)) (rE_ha I0 J36 (I0.up h_o0) (by decide)) f40 0 0
            rw [show (1 : Int32).toInt = 1 from by decide] at f41
            obtain ⟨s47, e48⟩ : ∃ s9 : p_S, p_fl pb pn 1 ps = s9 := ⟨_, rfl⟩
            rw [e48] at f41
            have := f41.w
            have q49 := J36.keep h_o0 (by decide) q5
            have q50 := J36.keep h_o0 (by decide) q29
            exact mv_vret d_TrustDeskModel_factor_118 rfl ⟨_, I37, rfl, R39, E46.vac (by have := R39.1 15 _ _ rfl; have := R39.1 16 _ _ rfl; have := R39.1 19 _ _ rfl; have := E46.f yS; omega) 1 0, (by have := R39.1 15 _ _ rfl; have := R39.1 16 _ _ rfl; have := R39.1 19 _ _ rfl; have := E46.f yS; omega), (by first | (have := yO.s4 (by omega) (by omega); rw [show p_fac pb pn pa (p_op pb pn pa 3) ps = s47 from (by have hop : (p_op pb pn pa 3) ps = p_sg pb pn 41 (p_sum pb pn pa (p_op pb pn pa 2) (p_nx ps)) := rfl; unfold p_fac; (try simp only [hop]); (try simp only [e48]); ((repeat' (first | (with_reducible rfl) | split)) <;> (exfalso; omega)))]; exact f41) | (exfalso; have := R39.1 15 _ _ rfl; have := R39.1 16 _ _ rfl; have := R39.1 19 _ _ rfl; have := E46.f yS; omega))⟩
          · refine mv_iconst (v := 1) d_TrustDeskModel_isSign_16 (by decide) ?_
            refine mv_goto (tgt := 21) d_TrustDeskModel_isSign_17 (by decide) ?_
            refine mv_iret d_TrustDeskModel_isSign_21 rfl (by decide) ?_
            refine mv_if_eq_f (tgt := 113) d_TrustDeskModel_factor_83 (by decide) (by decide) ?_
            refine mv_aload_n d_TrustDeskModel_factor_86 rfl rfl ?_
            obtain ⟨_, b57, -⟩ := I0.1 _ _ h_o0
            refine mv_callV (kc' := 0) (ks' := 0) (As := []) (st9 := [.ref o0]) d_TrustDeskModel_factor_87 lV_TrustDeskModel_285 b57 rfl (tc_TrustDeskModel_opens_x (d := (d + 12)) (x9 := x9) (o0 := o0) h_o0 yR yE0.1 (by have := yR.1 15 _ _ rfl; have := yR.1 16 _ _ rfl; have := yR.1 19 _ _ rfl; have := yE0.f yS; omega) (by have := yR.1 15 _ _ rfl; have := yR.1 16 _ _ rfl; have := yR.1 19 _ _ rfl; have := yE0.f yS; omega) (by have := yR.1 15 _ _ rfl; have := yR.1 16 _ _ rfl; have := yR.1 19 _ _ rfl; have := yE0.f yS; omega) (by have := yR.1 15 _ _ rfl; have := yR.1 16 _ _ rfl; have := yR.1 19 _ _ rfl; have := yE0.f yS; omega) yO I0.start) rfl (Nat.le_of_ble_eq_true rfl) (Nat.le_of_ble_eq_true rfl) (Nat.le_of_ble_eq_true rfl) (hst := rfl) (fun b51r M52 n53 b51 => ?_)
            obtain ⟨T54, J55, rfl, R58, f59, f60, f61⟩ := b51
            have I56 := I0.call J55 (tm_sub (by decide)) (Or.inl rfl)
            have t62 := J55.up h_o0
            have E63 : rE M0 M52 o0 0 1 := yE0.trans f59 (by decide) (yR.2 5 _ _ rfl 44).1 (by decide) (by decide)
            have := f59.w
            rw [if_neg (by have := yR.1 15 _ _ rfl; have := yR.1 16 _ _ rfl; have := yR.1 19 _ _ rfl; have := yE0.f yS; omega)] at f61
            obtain ⟨s64, e65⟩ : ∃ s9 : p_S, p_nx ps = s9 := ⟨_, rfl⟩
            rw [e65] at f61
            have := f61.w
            refine mv_aload_n d_TrustDeskModel_factor_90 rfl rfl ?_
            obtain ⟨_, b72, -⟩ := I56.1 _ _ t62
            refine mv_callV (kc' := 0) (ks' := 0) (As := []) (st9 := [.ref o0]) d_TrustDeskModel_factor_91 lV_TrustDeskModel_288 b72 rfl (tc_TrustDeskModel_sum_q3_x (d := d) (x9 := x9) (o0 := o0) t62 R58 E63.1 (by have := R58.1 15 _ _ rfl; have := R58.1 16 _ _ rfl; have := R58.1 19 _ _ rfl; have := E63.f yS; omega) (by have := R58.1 15 _ _ rfl; have := R58.1 16 _ _ rfl; have := R58.1 19 _ _ rfl; have := E63.f yS; omega) f61 I56.start) rfl (Nat.le_of_ble_eq_true rfl) (Nat.le_of_ble_eq_true rfl) (Nat.le_of_ble_eq_true rfl) (hst := rfl) (fun b66r M67 n68 b66 => ?_)
            obtain ⟨T69, J70, rfl, R73, f74, f75, f76⟩ := b66
            have I71 := I56.call J70 (tm_sub (by decide)) (Or.inl rfl)
            have t77 := J70.up t62
            have E78 : rE M0 M67 o0 1 1 := E63.trans f74 (by decide) (yR.2 5 _ _ rfl 44).1 (by decide) (by decide)
            have := f74.w
            obtain ⟨s79, e80⟩ : ∃ s9 : p_S, p_sum pb pn pa (p_op pb pn pa 2) s64 = s9 := ⟨_, rfl⟩
            rw [e80] at f76
            have := f76.w
            refine mv_aload_n d_TrustDeskModel_factor_94 rfl rfl ?_
            refine mv_bipush (v := 41) d_TrustDeskModel_factor_95 (by decide) ?_
            obtain ⟨_, b87, -⟩ := I71.1 _ _ t77
            have : (41 : Int32).toInt = 41 := by decide
            refine mv_callV (kc' := 0) (ks' := 0) (As := [.int 41]) (st9 := [.int 41, .ref o0]) d_TrustDeskModel_factor_97 lV_TrustDeskModel_291 b87 rfl (tc_TrustDeskModel_wantSign_x (d := (d + 12)) (x9 := x9) (o0 := o0) (x1 := 41) t77 R73 E78.1 (by have := R73.1 15 _ _ rfl; have := R73.1 16 _ _ rfl; have := R73.1 19 _ _ rfl; have := E78.f yS; omega) (by decide) f76 I71.start) rfl (Nat.le_of_ble_eq_true rfl) (Nat.le_of_ble_eq_true rfl) (Nat.le_of_ble_eq_true rfl) (hst := rfl) (fun b81r M82 n83 b81 => ?_)
            obtain ⟨T84, J85, rfl, R88, f89, f90⟩ := b81
            have I86 := I71.call J85 (tm_sub (by decide)) (Or.inl rfl)
            have t91 := J85.up t77
            have z92 := (rv_c I71 J85 (I71.up h_o0) (k := 22) rfl)
            have E93 : rE M0 M82 o0 1 2 := E78.trans f89 (by decide) (yR.2 5 _ _ rfl 44).1 (by decide) (by decide)
            have := f89.w
            rw [show (41 : Int32).toInt = 41 from by decide] at f90
            obtain ⟨s94, e95⟩ : ∃ s9 : p_S, p_sg pb pn 41 s79 = s9 := ⟨_, rfl⟩
            rw [e95] at f90
            have := f90.w
            refine mv_aload_n d_TrustDeskModel_factor_100 rfl rfl ?_
            refine mv_dup d_TrustDeskModel_factor_101 rfl ?_
            obtain ⟨v97, q96⟩ := tm_atI I86 t91 (k := 22) rfl
            refine tr_getK q96 d_TrustDeskModel_factor_102 f_TrustDeskModel_276_13 ?_
            have := (tm_rv q96).symm.trans z92
            have := tm_rv q96
            refine mv_iconst (v := 1) d_TrustDeskModel_factor_105 (by decide) ?_
            refine mv_isub d_TrustDeskModel_factor_106 ?_
            have : rv M82 o0 19 = 0 → (v97 - 1 : Int32).toInt = v97.toInt - 1 := fun h9 => mz_sub2 rfl (by decide) (by omega) (by omega)
            refine tr_putR (k := 22) I86 R88 t91 rfl ⟨_, rfl⟩ (fun _ h => by cases h) rfl (fun lo hi h => by cases h) (Or.inl (by decide)) d_TrustDeskModel_factor_107 p_TrustDeskModel_276_13 rfl rfl (fun M98 I99 q100 K101 R102 A103 V104 => ?_)
            have z105 := (V104 16 (by decide))
            have z106 := (V104 17 (by decide))
            have z107 := (V104 19 (by decide))
            have z108 : rv M98 o0 22 = (v97 - 1).toInt := tm_rv q100
            have E109 : rE M0 M98 o0 1 2 := E93.same (fun k h1 h2 => V104 k (by omega)) (fun k h1 h2 => A103 k (by omega))
            have Z9110 : pO M98 o0 pb pn pa s94 := f90.same (fun k h1 h2 => V104 k (by omega)) (V104 23 (by decide)) (A103 13 (by decide))
            refine mv_goto (tgt := 118) d_TrustDeskModel_factor_110 (by decide) ?_
            exact mv_vret d_TrustDeskModel_factor_118 rfl ⟨_, I99, rfl, R102, E109.less (by decide), (by have := R102.1 15 _ _ rfl; have := R102.1 16 _ _ rfl; have := R102.1 19 _ _ rfl; have := E109.f yS; omega), (by first | (have := yO.s4 (by omega) (by omega); rw [show p_fac pb pn pa (p_op pb pn pa 3) ps = s94 from (by have hop : (p_op pb pn pa 3) ps = p_sg pb pn 41 (p_sum pb pn pa (p_op pb pn pa 2) (p_nx ps)) := rfl; unfold p_fac; (try simp only [hop]); (try simp only [e65, e80, e95]); ((repeat' (first | (with_reducible rfl) | split)) <;> (exfalso; omega)))]; exact Z9110) | (exfalso; have := R102.1 15 _ _ rfl; have := R102.1 16 _ _ rfl; have := R102.1 19 _ _ rfl; have := E109.f yS; omega))⟩
      · refine mv_aload_n d_TrustDeskModel_factor_39 rfl rfl ?_
        obtain ⟨_, b117, -⟩ := I0.1 _ _ h_o0
        refine mv_callV (kc' := 0) (ks' := 0) (As := []) (st9 := [.ref o0]) d_TrustDeskModel_factor_40 lV_TrustDeskModel_282 b117 rfl (tc_TrustDeskModel_name_x (d := (d + 9)) (x9 := x9) (o0 := o0) h_o0 yR (by have := yR.1 15 _ _ rfl; have := yR.1 16 _ _ rfl; have := yR.1 19 _ _ rfl; have := yE0.f yS; omega) yO I0.start) rfl (Nat.le_of_ble_eq_true rfl) (Nat.le_of_ble_eq_true rfl) (Nat.le_of_ble_eq_true rfl) (hst := rfl) (fun b111r M112 n113 b111 => ?_)
        obtain ⟨T114, J115, v118, rfl, R119, f120, f121⟩ := b111
        have I116 := I0.call J115 (tm_sub (by decide)) (Or.inl rfl)
        have t122 := J115.up h_o0
        have z123 := (rv_c I0 J115 (I0.up h_o0) (k := 16) rfl)
        have z124 := (rv_c I0 J115 (I0.up h_o0) (k := 17) rfl)
        have z125 := (rv_c I0 J115 (I0.up h_o0) (k := 19) rfl)
        have z126 := (rv_c I0 J115 (I0.up h_o0) (k := 22) rfl)
        have E127 : rE M0 M112 o0 0 0 := yE0.same (rE_hv I0 J115 (I0.up h_o0) 15 19 (by decide)) (rE_ha I0 J115 (I0.up h_o0) (by decide))
        have Z9128 : pO M112 o0 pb pn pa ps := yO.same (rE_hv I0 J115 (I0.up h_o0) 14 20 (by decide)) (rv_c I0 J115 (I0.up h_o0) (k := 23) rfl) (ra_call I0 J115 (I0.up h_o0) (k := 13) rfl rfl rfl)
        have q129 := J115.keep h_o0 (by decide) q2
        have q130 := J115.keep h_o0 (by decide) q5
        refine mv_istore_n (lv' := [(1, .int v118), (0, .ref o0)]) d_TrustDeskModel_factor_43 rfl (by decide) rfl ?_
        refine mv_iload_n d_TrustDeskModel_factor_44 rfl rfl ?_
        refine mv_iconst (v := (-1)) d_TrustDeskModel_factor_45 (by decide) ?_
        have := mz_hi v118
        refine mv_icmp_neZ (tgt := 54) (a := v118.toInt) (b := (-1)) d_TrustDeskModel_factor_46 (by decide) rfl (by decide) (fun b131 => ?_) (fun b131 => ?_)
        · refine mv_aload_n d_TrustDeskModel_factor_54 rfl rfl ?_
          refine mv_sipush (v := 10000) d_TrustDeskModel_factor_55 (by decide) ?_
          refine mv_iload_n d_TrustDeskModel_factor_58 rfl rfl ?_
          refine mv_iadd d_TrustDeskModel_factor_59 ?_
          obtain ⟨_, b138, -⟩ := I116.1 _ _ t122
          have b139 : (10000 + v118 : Int32).toInt = (10000 + v118.toInt) := mz_add2 (by decide) rfl (by have := R119.1 15 _ _ rfl; have := R119.1 16 _ _ rfl; have := R119.1 19 _ _ rfl; have := E127.f yS; omega) (by have := R119.1 15 _ _ rfl; have := R119.1 16 _ _ rfl; have := R119.1 19 _ _ rfl; have := E127.f yS; omega)
          refine mv_callV (kc' := 0) (ks' := 0) (As := [.int (10000 + v118)]) (st9 := [.int (10000 + v118), .ref o0]) d_TrustDeskModel_factor_60 lV_TrustDeskModel_279 b138 rfl (tc_TrustDeskModel_emits_x (d := (d + 13)) (x9 := x9) (o0 := o0) (x1 := (10000 + v118)) t122 R119 (by have := R119.1 15 _ _ rfl; have := R119.1 16 _ _ rfl; have := R119.1 19 _ _ rfl; have := E127.f yS; omega) (by have := R119.1 15 _ _ rfl; have := R119.1 16 _ _ rfl; have := R119.1 19 _ _ rfl; have := E127.f yS; omega) I116.start) rfl (Nat.le_of_ble_eq_true rfl) (Nat.le_of_ble_eq_true rfl) (Nat.le_of_ble_eq_true rfl) (hst := rfl) (fun b132r M133 n134 b132 => ?_)
          obtain ⟨T135, J136, rfl, R140, f141⟩ := b132
          have I137 := I116.call J136 (tm_sub (by decide)) (Or.inl rfl)
          have t142 := J136.up t122
          have z143 := (rv_c I116 J136 (I116.up h_o0) (k := 16) rfl).trans z123
          have z144 := (rv_c I116 J136 (I116.up h_o0) (k := 17) rfl).trans z124
          have z145 := (rv_c I116 J136 (I116.up h_o0) (k := 19) rfl).trans z125
          have z146 := (rv_c I116 J136 (I116.up h_o0) (k := 22) rfl).trans z126
          have E147 : rE M0 M133 o0 1 (-1) := E127.emit f141 (rE_hv I116 J136 (I116.up h_o0) 15 19 (by decide)) (yR.2 5 _ _ rfl 44).1 (by decide) (Or.inl ⟨by have := R119.1 15 _ _ rfl; have := R119.1 16 _ _ rfl; have := R119.1 19 _ _ rfl; have := E127.f yS; omega, by decide⟩) (by decide)
          have Z9148 : pO M133 o0 pb pn pa ps := Z9128.same (rE_hv I116 J136 (I116.up h_o0) 14 20 (by decide)) (rv_c I116 J136 (I116.up h_o0) (k := 23) rfl) (ra_call I116 J136 (I116.up h_o0) (k := 13) rfl rfl rfl)
          clear z123 z124 z125 z126
          have q149 := J136.keep t122 (by decide) q129
          have q150 := J136.keep t122 (by decide) q130
          refine mv_aload_n d_TrustDeskModel_factor_63 rfl rfl ?_
          obtain ⟨_, b151, -⟩ := I137.1 _ _ t142
          refine mv_callV (kc1 := 0) (ks1 := 0) (kc' := 0) (ks' := 0) (As := []) (st9 := [.ref o0]) d_TrustDeskModel_factor_64 lV_TrustDeskModel_230 b151 rfl (mj_enter (by decide) (Nat.le_of_ble_eq_true rfl) ?_) rfl (Nat.le_of_ble_eq_true rfl) (Nat.le_of_ble_eq_true rfl) (Nat.le_of_ble_eq_true rfl) (hst := rfl) (fun _ _ _ h => h)
          refine mv_aload_n d_TrustDeskModel_isWell_0 rfl rfl ?_
          refine tr_getK (k := 19) q149 d_TrustDeskModel_isWell_1 f_TrustDeskModel_224_13 ?_
          have := mz_hi v3
          refine mv_if_neZ (tgt := 11) (a := v3.toInt) d_TrustDeskModel_isWell_4 (by decide) rfl (fun b152 => absurd b152 (by omega)) (fun b152 => ?_)
          refine mv_iconst (v := 1) d_TrustDeskModel_isWell_7 (by decide) ?_
          refine mv_goto (tgt := 12) d_TrustDeskModel_isWell_8 (by decide) ?_
          refine mv_iret d_TrustDeskModel_isWell_12 rfl (by decide) ?_
          refine mv_if_eq_f (tgt := 74) d_TrustDeskModel_factor_67 (by decide) (by decide) ?_
          refine mv_aload_n d_TrustDeskModel_factor_70 rfl rfl ?_
          obtain ⟨_, b159, -⟩ := I137.1 _ _ t142
          refine mv_callV (kc' := 0) (ks' := 0) (As := []) (st9 := [.ref o0]) d_TrustDeskModel_factor_71 lV_TrustDeskModel_237 b159 rfl (tc_TrustDeskModel_next_x (d := (d + 13)) (x9 := x9) (o0 := o0) t142 R140 Z9148.p I137.start) rfl (Nat.le_of_ble_eq_true rfl) (Nat.le_of_ble_eq_true rfl) (Nat.le_of_ble_eq_true rfl) (hst := rfl) (fun b153r M154 n155 b153 => ?_)
          obtain ⟨T156, J157, rfl, R160, f161, f162, f163⟩ := b153
          have I158 := I137.call J157 (tm_sub (by decide)) (Or.inl rfl)
          have t164 := J157.up t142
          have z165 := (rv_c I137 J157 (I137.up h_o0) (k := 19) rfl).trans z145
          have z166 := (rv_c I137 J157 (I137.up h_o0) (k := 22) rfl).trans z146
          have h168 : rv M133 o0 16 + 1 ≤ rv M133 o0 15 := (by have := R140.1 15 _ _ rfl; have := R140.1 16 _ _ rfl; have := R140.1 19 _ _ rfl; have := E147.f yS; omega)
          have E167 : rE M0 M154 o0 1 0 := E147.next f161 f162 (rv_c I137 J157 (I137.up h_o0) (k := 19) rfl) (rE_ha I137 J157 (I137.up h_o0) (by decide)) (e := 1) h168 (by decide)
          obtain ⟨s169, e170⟩ : ∃ s9 : p_S, p_nx ps = s9 := ⟨_, rfl⟩
          rw [e170] at f163
          have := f163.w
          clear z145 z146
          have q171 := J157.keep t142 (by decide) q149
          refine mv_goto (tgt := 118) d_TrustDeskModel_factor_74 (by decide) ?_
          exact mv_vret d_TrustDeskModel_factor_118 rfl ⟨_, I158, rfl, R160, E167, (by have := R160.1 15 _ _ rfl; have := R160.1 16 _ _ rfl; have := R160.1 19 _ _ rfl; have := E167.f yS; omega), (by first | (have := yO.s3 (by omega) (by omega); rw [show p_fac pb pn pa (p_op pb pn pa 3) ps = s169 from (by have hop : (p_op pb pn pa 3) ps = p_sg pb pn 41 (p_sum pb pn pa (p_op pb pn pa 2) (p_nx ps)) := rfl; unfold p_fac; (try simp only [hop]); (try simp only [e170]); ((repeat' (first | (with_reducible rfl) | split)) <;> (exfalso; omega)))]; exact f163) | (exfalso; have := R160.1 15 _ _ rfl; have := R160.1 16 _ _ rfl; have := R160.1 19 _ _ rfl; have := E167.f yS; omega))⟩
        · refine mv_aload_n d_TrustDeskModel_factor_49 rfl rfl ?_
          refine mv_iconst (v := 3) d_TrustDeskModel_factor_50 (by decide) ?_
          obtain ⟨_, b178, -⟩ := I116.1 _ _ t122
          have : (3 : Int32).toInt = 3 := by decide
          refine mv_callV (kc' := 0) (ks' := 0) (As := [.int 3]) (st9 := [.int 3, .ref o0]) d_TrustDeskModel_factor_51 lV_TrustDeskModel_240 b178 rfl (tc_TrustDeskModel_fails_x (d := (d + 14)) (x9 := x9) (o0 := o0) (x1 := 3) t122 R119 (by decide) Z9128 I116.start) rfl (Nat.le_of_ble_eq_true rfl) (Nat.le_of_ble_eq_true rfl) (Nat.le_of_ble_eq_true rfl) (hst := rfl) (fun b172r M173 n174 b172 => ?_)
          obtain ⟨T175, J176, rfl, R179, f180, f181⟩ := b172
          have I177 := I116.call J176 (tm_sub (by decide)) (Or.inl rfl)
          have t182 := J176.up t122
          have z183 := (rv_c I116 J176 (I116.up h_o0) (k := 16) rfl).trans z123
          have z184 := (rv_c I116 J176 (I116.up h_o0) (k := 17) rfl).trans z124
          have z185 := (rv_c I116 J176 (I116.up h_o0) (k := 22) rfl).trans z126
          have E186 : rE M0 M173 o0 0 0 := E127.fails (rE_hv I116 J176 (I116.up h_o0) 15 18 (by decide)) (rE_ha I116 J176 (I116.up h_o0) (by decide)) f180 0 0
          rw [show (3 : Int32).toInt = 3 from by decide] at f181
          obtain ⟨s187, e188⟩ : ∃ s9 : p_S, p_fl pb pn 3 ps = s9 := ⟨_, rfl⟩
          rw [e188] at f181
          have := f181.w
          clear z123 z124 z126
          have q189 := J176.keep t122 (by decide) q130
          refine mv_aload_n d_TrustDeskModel_factor_54 rfl rfl ?_
          refine mv_sipush (v := 10000) d_TrustDeskModel_factor_55 (by decide) ?_
          refine mv_iload_n d_TrustDeskModel_factor_58 rfl rfl ?_
          refine mv_iadd d_TrustDeskModel_factor_59 ?_
          obtain ⟨_, b196, -⟩ := I177.1 _ _ t182
          have b197 : (10000 + v118 : Int32).toInt = (10000 + v118.toInt) := mz_add2 (by decide) rfl (by have := R179.1 15 _ _ rfl; have := R179.1 16 _ _ rfl; have := R179.1 19 _ _ rfl; have := E186.f yS; omega) (by have := R179.1 15 _ _ rfl; have := R179.1 16 _ _ rfl; have := R179.1 19 _ _ rfl; have := E186.f yS; omega)
          refine mv_callV (kc' := 0) (ks' := 0) (As := [.int (10000 + v118)]) (st9 := [.int (10000 + v118), .ref o0]) d_TrustDeskModel_factor_60 lV_TrustDeskModel_279 b196 rfl (tc_TrustDeskModel_emits_x (d := (d + 13)) (x9 := x9) (o0 := o0) (x1 := (10000 + v118)) t182 R179 (by have := R179.1 15 _ _ rfl; have := R179.1 16 _ _ rfl; have := R179.1 19 _ _ rfl; have := E186.f yS; omega) (by have := R179.1 15 _ _ rfl; have := R179.1 16 _ _ rfl; have := R179.1 19 _ _ rfl; have := E186.f yS; omega) I177.start) rfl (Nat.le_of_ble_eq_true rfl) (Nat.le_of_ble_eq_true rfl) (Nat.le_of_ble_eq_true rfl) (hst := rfl) (fun b190r M191 n192 b190 => ?_)
          obtain ⟨T193, J194, rfl, R198, f199⟩ := b190
          have I195 := I177.call J194 (tm_sub (by decide)) (Or.inl rfl)
          have t200 := J194.up t182
          have z201 := (rv_c I177 J194 (I177.up h_o0) (k := 16) rfl).trans z183
          have z202 := (rv_c I177 J194 (I177.up h_o0) (k := 17) rfl).trans z184
          have z203 := (rv_c I177 J194 (I177.up h_o0) (k := 19) rfl)
          have z204 := (rv_c I177 J194 (I177.up h_o0) (k := 22) rfl).trans z185
          have E205 : rE M0 M191 o0 1 (-1) := E186.emit f199 (rE_hv I177 J194 (I177.up h_o0) 15 19 (by decide)) (yR.2 5 _ _ rfl 44).1 (by decide) (Or.inl ⟨by have := R179.1 15 _ _ rfl; have := R179.1 16 _ _ rfl; have := R179.1 19 _ _ rfl; have := E186.f yS; omega, by decide⟩) (by decide)
          have Z9206 : pO M191 o0 pb pn pa s187 := f181.same (rE_hv I177 J194 (I177.up h_o0) 14 20 (by decide)) (rv_c I177 J194 (I177.up h_o0) (k := 23) rfl) (ra_call I177 J194 (I177.up h_o0) (k := 13) rfl rfl rfl)
          clear z183 z184 z185
          have q207 := J194.keep t182 (by decide) q189
          refine mv_aload_n d_TrustDeskModel_factor_63 rfl rfl ?_
          obtain ⟨_, b208, -⟩ := I195.1 _ _ t200
          refine mv_callV (kc1 := 0) (ks1 := 0) (kc' := 0) (ks' := 0) (As := []) (st9 := [.ref o0]) d_TrustDeskModel_factor_64 lV_TrustDeskModel_230 b208 rfl (mj_enter (by decide) (Nat.le_of_ble_eq_true rfl) ?_) rfl (Nat.le_of_ble_eq_true rfl) (Nat.le_of_ble_eq_true rfl) (Nat.le_of_ble_eq_true rfl) (hst := rfl) (fun _ _ _ h => h)
          refine mv_aload_n d_TrustDeskModel_isWell_0 rfl rfl ?_
          obtain ⟨v210, q209⟩ := tm_atI I195 t200 (k := 19) rfl
          refine tr_getK q209 d_TrustDeskModel_isWell_1 f_TrustDeskModel_224_13 ?_
          have := R198.f (k := 19) q209 rfl
          have := (tm_rv q209).symm.trans z203
          have := tm_rv q209
          have := mz_hi v210
          refine mv_if_neZ (tgt := 11) (a := v210.toInt) d_TrustDeskModel_isWell_4 (by decide) rfl (fun b211 => ?_) (fun b211 => ?_)
          · refine mv_iconst (v := 0) d_TrustDeskModel_isWell_11 (by decide) ?_
            refine mv_iret d_TrustDeskModel_isWell_12 rfl (by decide) ?_
            refine mv_if_eq_t (tgt := 74) d_TrustDeskModel_factor_67 (by decide) (by decide) ?_
            refine mv_goto (tgt := 118) d_TrustDeskModel_factor_74 (by decide) ?_
            exact mv_vret d_TrustDeskModel_factor_118 rfl ⟨_, I195, rfl, R198, E205.vac (by have := R198.1 15 _ _ rfl; have := R198.1 16 _ _ rfl; have := R198.1 19 _ _ rfl; have := E205.f yS; omega) 1 0, (by have := R198.1 15 _ _ rfl; have := R198.1 16 _ _ rfl; have := R198.1 19 _ _ rfl; have := E205.f yS; omega), (by first | (have := yO.s3 (by omega) (by omega); rw [show p_fac pb pn pa (p_op pb pn pa 3) ps = s187 from (by have hop : (p_op pb pn pa 3) ps = p_sg pb pn 41 (p_sum pb pn pa (p_op pb pn pa 2) (p_nx ps)) := rfl; unfold p_fac; (try simp only [hop]); (try simp only [e188]); ((repeat' (first | (with_reducible rfl) | split)) <;> (exfalso; omega)))]; exact Z9206) | (exfalso; have := R198.1 15 _ _ rfl; have := R198.1 16 _ _ rfl; have := R198.1 19 _ _ rfl; have := E205.f yS; omega))⟩
          · refine mv_iconst (v := 1) d_TrustDeskModel_isWell_7 (by decide) ?_
            refine mv_goto (tgt := 12) d_TrustDeskModel_isWell_8 (by decide) ?_
            refine mv_iret d_TrustDeskModel_isWell_12 rfl (by decide) ?_
            refine mv_if_eq_f (tgt := 74) d_TrustDeskModel_factor_67 (by decide) (by decide) ?_
            refine mv_aload_n d_TrustDeskModel_factor_70 rfl rfl ?_
            obtain ⟨_, b218, -⟩ := I195.1 _ _ t200
            refine mv_callV (kc' := 0) (ks' := 0) (As := []) (st9 := [.ref o0]) d_TrustDeskModel_factor_71 lV_TrustDeskModel_237 b218 rfl (tc_TrustDeskModel_next_x (d := (d + 13)) (x9 := x9) (o0 := o0) t200 R198 Z9206.p I195.start) rfl (Nat.le_of_ble_eq_true rfl) (Nat.le_of_ble_eq_true rfl) (Nat.le_of_ble_eq_true rfl) (hst := rfl) (fun b212r M213 n214 b212 => ?_)
            obtain ⟨T215, J216, rfl, R219, f220, f221, f222⟩ := b212
            have I217 := I195.call J216 (tm_sub (by decide)) (Or.inl rfl)
            have t223 := J216.up t200
            have z224 := (rv_c I195 J216 (I195.up h_o0) (k := 19) rfl).trans z203
            have z225 := (rv_c I195 J216 (I195.up h_o0) (k := 22) rfl).trans z204
            have h227 : rv M191 o0 16 + 1 ≤ rv M191 o0 15 := (by have := R198.1 15 _ _ rfl; have := R198.1 16 _ _ rfl; have := R198.1 19 _ _ rfl; have := E205.f yS; omega)
            have E226 : rE M0 M213 o0 1 0 := E205.next f220 f221 (rv_c I195 J216 (I195.up h_o0) (k := 19) rfl) (rE_ha I195 J216 (I195.up h_o0) (by decide)) (e := 1) h227 (by decide)
            obtain ⟨s228, e229⟩ : ∃ s9 : p_S, p_nx s187 = s9 := ⟨_, rfl⟩
            rw [e229] at f222
            have := f222.w
            clear z203 z204
            have q230 := J216.keep t200 (by decide) q209
            refine mv_goto (tgt := 118) d_TrustDeskModel_factor_74 (by decide) ?_
            exact mv_vret d_TrustDeskModel_factor_118 rfl ⟨_, I217, rfl, R219, E226, (by have := R219.1 15 _ _ rfl; have := R219.1 16 _ _ rfl; have := R219.1 19 _ _ rfl; have := E226.f yS; omega), (by first | (have := yO.s3 (by omega) (by omega); rw [show p_fac pb pn pa (p_op pb pn pa 3) ps = s228 from (by have hop : (p_op pb pn pa 3) ps = p_sg pb pn 41 (p_sum pb pn pa (p_op pb pn pa 2) (p_nx ps)) := rfl; unfold p_fac; (try simp only [hop]); (try simp only [e188, e229]); ((repeat' (first | (with_reducible rfl) | split)) <;> (exfalso; omega)))]; exact f222) | (exfalso; have := R219.1 15 _ _ rfl; have := R219.1 16 _ _ rfl; have := R219.1 19 _ _ rfl; have := E226.f yS; omega))⟩
    · refine mv_aload_n d_TrustDeskModel_factor_16 rfl rfl ?_
      refine mv_aload_n d_TrustDeskModel_factor_17 rfl rfl ?_
      obtain ⟨v232, q231⟩ := tm_atI I0 h_o0 (k := 18) rfl
      refine tr_getK q231 d_TrustDeskModel_factor_18 f_TrustDeskModel_201_13 ?_
      have := yR.f (k := 18) q231 rfl
      have := tm_rv q231
      obtain ⟨_, b239, -⟩ := I0.1 _ _ h_o0
      refine mv_callV (kc' := 0) (ks' := 0) (As := [.int v232]) (st9 := [.int v232, .ref o0]) d_TrustDeskModel_factor_21 lV_TrustDeskModel_279 b239 rfl (tc_TrustDeskModel_emits_x (d := (d + 13)) (x9 := x9) (o0 := o0) (x1 := v232) h_o0 yR (by have := yR.1 15 _ _ rfl; have := yR.1 16 _ _ rfl; have := yR.1 19 _ _ rfl; have := yE0.f yS; omega) (by have := yR.1 15 _ _ rfl; have := yR.1 16 _ _ rfl; have := yR.1 19 _ _ rfl; have := yE0.f yS; omega) I0.start) rfl (Nat.le_of_ble_eq_true rfl) (Nat.le_of_ble_eq_true rfl) (Nat.le_of_ble_eq_true rfl) (hst := rfl) (fun b233r M234 n235 b233 => ?_)
      obtain ⟨T236, J237, rfl, R240, f241⟩ := b233
      have I238 := I0.call J237 (tm_sub (by decide)) (Or.inl rfl)
      have t242 := J237.up h_o0
      have z243 := (rv_c I0 J237 (I0.up h_o0) (k := 16) rfl)
      have z244 := (rv_c I0 J237 (I0.up h_o0) (k := 17) rfl)
      have z245 := (rv_c I0 J237 (I0.up h_o0) (k := 19) rfl)
      have z246 := (rv_c I0 J237 (I0.up h_o0) (k := 22) rfl)
      have E247 : rE M0 M234 o0 1 (-1) := yE0.emit f241 (rE_hv I0 J237 (I0.up h_o0) 15 19 (by decide)) (yR.2 5 _ _ rfl 44).1 (by decide) (Or.inl ⟨by have := yR.1 15 _ _ rfl; have := yR.1 16 _ _ rfl; have := yR.1 19 _ _ rfl; have := yE0.f yS; omega, by decide⟩) (by decide)
      have Z9248 : pO M234 o0 pb pn pa ps := yO.same (rE_hv I0 J237 (I0.up h_o0) 14 20 (by decide)) (rv_c I0 J237 (I0.up h_o0) (k := 23) rfl) (ra_call I0 J237 (I0.up h_o0) (k := 13) rfl rfl rfl)
      have q249 := J237.keep h_o0 (by decide) q2
      have q250 := J237.keep h_o0 (by decide) q5
      have q251 := J237.keep h_o0 (by decide) q231
      refine mv_aload_n d_TrustDeskModel_factor_24 rfl rfl ?_
      obtain ⟨_, b258, -⟩ := I238.1 _ _ t242
      refine mv_callV (kc' := 0) (ks' := 0) (As := []) (st9 := [.ref o0]) d_TrustDeskModel_factor_25 lV_TrustDeskModel_237 b258 rfl (tc_TrustDeskModel_next_x (d := (d + 13)) (x9 := x9) (o0 := o0) t242 R240 Z9248.p I238.start) rfl (Nat.le_of_ble_eq_true rfl) (Nat.le_of_ble_eq_true rfl) (Nat.le_of_ble_eq_true rfl) (hst := rfl) (fun b252r M253 n254 b252 => ?_)
      obtain ⟨T255, J256, rfl, R259, f260, f261, f262⟩ := b252
      have I257 := I238.call J256 (tm_sub (by decide)) (Or.inl rfl)
      have t263 := J256.up t242
      have z264 := (rv_c I238 J256 (I238.up h_o0) (k := 19) rfl).trans z245
      have z265 := (rv_c I238 J256 (I238.up h_o0) (k := 22) rfl).trans z246
      have h267 : rv M234 o0 16 + 1 ≤ rv M234 o0 15 := (by have := R240.1 15 _ _ rfl; have := R240.1 16 _ _ rfl; have := R240.1 19 _ _ rfl; have := E247.f yS; omega)
      have E266 : rE M0 M253 o0 1 0 := E247.next f260 f261 (rv_c I238 J256 (I238.up h_o0) (k := 19) rfl) (rE_ha I238 J256 (I238.up h_o0) (by decide)) (e := 1) h267 (by decide)
      obtain ⟨s268, e269⟩ : ∃ s9 : p_S, p_nx ps = s9 := ⟨_, rfl⟩
      rw [e269] at f262
      have := f262.w
      clear z245 z246
      have q270 := J256.keep t242 (by decide) q249
      refine mv_goto (tgt := 118) d_TrustDeskModel_factor_28 (by decide) ?_
      exact mv_vret d_TrustDeskModel_factor_118 rfl ⟨_, I257, rfl, R259, E266, (by have := R259.1 15 _ _ rfl; have := R259.1 16 _ _ rfl; have := R259.1 19 _ _ rfl; have := E266.f yS; omega), (by first | (have := yO.s2 (by omega) (by omega); rw [show p_fac pb pn pa (p_op pb pn pa 3) ps = s268 from (by have hop : (p_op pb pn pa 3) ps = p_sg pb pn 41 (p_sum pb pn pa (p_op pb pn pa 2) (p_nx ps)) := rfl; unfold p_fac; (try simp only [hop]); (try simp only [e269]); ((repeat' (first | (with_reducible rfl) | split)) <;> (exfalso; omega)))]; exact f262) | (exfalso; have := R259.1 15 _ _ rfl; have := R259.1 16 _ _ rfl; have := R259.1 19 _ _ rfl; have := E266.f yS; omega))⟩
def w_TrustDeskModel_product_q4_x : List Nat := [1315, 1316, 1317, 1318, 1319, 1320, 1322, 20004, 20005]
set_option maxHeartbeats 100000000 in theorem tc_TrustDeskModel_product_q4_x {g : mj_G} {l : Launch} {d : Nat} {T0 : tm_H} {M0 : mj_M} {n0 x9 : Nat} {o0 : Nat} (h_o0 : T0 o0 = some (0, 13, 0)) (yR : rI M0 o0) (yT : rT M0 o0) (yS : rv M0 o0 19 = 0 → ra M0 o0 5 44 ≤ rv M0 o0 16) (yL : rv M0 o0 19 ≠ 0 ∨ (1 ≤ rv M0 o0 22 ∧ rv M0 o0 22 ≤ 1)) {pb : Nat → Int} {pn : Nat} {pa : Int} {ps : p_S} (yO : pO M0 o0 pb pn pa ps) (I0 : tm_I tm_FT (tm_in w_TrustDeskModel_product_q4_x) x9 T0 M0 n0 T0 M0 n0) : mj_Met g l kY_TrustDeskModel_product (d + 16) [.ref o0] M0 n0 0 0 (tm_Q tm_FT (tm_in w_TrustDeskModel_product_q4_x) x9 T0 M0 n0 (fun r _ M => r = none ∧ rI M o0 ∧ (rE M0 M o0 1 0) ∧ (rv M o0 19 = 0 → rv M o0 22 = rv M0 o0 22) ∧ (pO M o0 pb pn pa (p_pro pb pn pa (p_op pb pn pa 3) ps)))) := by
  refine mj_enter (by decide) (Nat.le_of_ble_eq_true rfl) ?_
  have yE0 := rE.rf yT
  have := yO.w
  refine mv_aload_n d_TrustDeskModel_product_0 rfl rfl ?_
  obtain ⟨_, b7, -⟩ := I0.1 _ _ h_o0
  refine mv_callV (kc' := 0) (ks' := 0) (As := []) (st9 := [.ref o0]) d_TrustDeskModel_product_1 lV_TrustDeskModel_294 b7 rfl (tc_TrustDeskModel_factor_q4_x (d := d) (x9 := x9) (o0 := o0) h_o0 yR yE0.1 (by have := yR.1 15 _ _ rfl; have := yR.1 16 _ _ rfl; have := yR.1 19 _ _ rfl; have := yE0.f yS; omega) (by have := yR.1 15 _ _ rfl; have := yR.1 16 _ _ rfl; have := yR.1 19 _ _ rfl; have := yE0.f yS; omega) yO I0.start) rfl (Nat.le_of_ble_eq_true rfl) (Nat.le_of_ble_eq_true rfl) (Nat.le_of_ble_eq_true rfl) (hst := rfl) (fun b1r M2 n3 b1 => ?_)
  obtain ⟨T4, J5, rfl, R8, f9, f10, f11⟩ := b1
  have I6 := I0.call J5 (tm_sub (by decide)) (Or.inl rfl)
  have t12 := J5.up h_o0
  have E13 : rE M0 M2 o0 1 0 := yE0.trans f9 (by decide) (yR.2 5 _ _ rfl 44).1 (by decide) (by decide)
  have := f9.w
  obtain ⟨s14, e15⟩ : ∃ s9 : p_S, p_fac pb pn pa (p_op pb pn pa 3) ps = s9 := ⟨_, rfl⟩
  rw [e15] at f11
  have := f11.w
  have L4_16 : ∀ (k : Nat) (T_16 : tm_H) (M_16 : mj_M) (n_16 : Nat), tm_I tm_FT (tm_in w_TrustDeskModel_product_q4_x) x9 T0 M0 n0 T_16 M_16 n_16 → T_16 o0 = some (0, 13, 0) → (rv M_16 o0 19 = 0 → rv M_16 o0 22 = rv M0 o0 22) → (rI M_16 o0) → (rE M0 M_16 o0 1 0) → (∃ s1 : p_S, pO M_16 o0 pb pn pa s1 ∧ p_lp pn (p_pr1 pb pn pa (p_op pb pn pa 3)) s1 = p_pro pb pn pa (p_op pb pn pa 3) ps) → 5 * (401 - rv M_16 o0 16) - rv M_16 o0 19 < (k : Int) → mj_V g l kY_TrustDeskModel_product (d + 16) 4 [(0, .ref o0)] [] M_16 n_16 0 0 (tm_Q tm_FT (tm_in w_TrustDeskModel_product_q4_x) x9 T0 M0 n0 (fun r _ M => r = none ∧ rI M o0 ∧ (rE M0 M o0 1 0) ∧ (rv M o0 19 = 0 → rv M o0 22 = rv M0 o0 22) ∧ (pO M o0 pb pn pa (p_pro pb pn pa (p_op pb pn pa 3) ps)))) := by
    intro k16
    induction k16 with
    | zero =>
      intro T_16 M_16 n_16 I_16 h_q0_16 iv0_16 kKR_16 kKE_16 kKT9_16 hk16
      have := kKR_16.1 15 _ _ rfl
      have := kKR_16.1 16 _ _ rfl
      have := kKR_16.1 19 _ _ rfl
      exfalso; omega
    | succ k16 ih16 =>
      intro T_16 M_16 n_16 I_16 h_q0_16 iv0_16 kKR_16 kKE_16 kKT9_16 hk16
      have := kKE_16.f yS
      obtain ⟨s17, Z918, e19⟩ := kKT9_16
      have := Z918.w
      refine mv_aload_n d_TrustDeskModel_product_4 rfl rfl ?_
      obtain ⟨_, b20, -⟩ := I_16.1 _ _ h_q0_16
      refine mv_callV (kc1 := 0) (ks1 := 0) (kc' := 0) (ks' := 0) (As := []) (st9 := [.ref o0]) d_TrustDeskModel_product_5 lV_TrustDeskModel_230 b20 rfl (mj_enter (by decide) (Nat.le_of_ble_eq_true rfl) ?_) rfl (Nat.le_of_ble_eq_true rfl) (Nat.le_of_ble_eq_true rfl) (Nat.le_of_ble_eq_true rfl) (hst := rfl) (fun _ _ _ h => h)
      refine mv_aload_n d_TrustDeskModel_isWell_0 rfl rfl ?_
      obtain ⟨v22, q21⟩ := tm_atI I_16 h_q0_16 (k := 19) rfl
      refine tr_getK q21 d_TrustDeskModel_isWell_1 f_TrustDeskModel_224_13 ?_
      have := kKR_16.f (k := 19) q21 rfl
      have := tm_rv q21
      have := mz_hi v22
      refine mv_if_neZ (tgt := 11) (a := v22.toInt) d_TrustDeskModel_isWell_4 (by decide) rfl (fun b23 => ?_) (fun b23 => ?_)
      · refine mv_iconst (v := 0) d_TrustDeskModel_isWell_11 (by decide) ?_
        refine mv_iret d_TrustDeskModel_isWell_12 rfl (by decide) ?_
        refine mv_if_eq_t (tgt := 37) d_TrustDeskModel_product_8 (by decide) (by decide) ?_
        exact mv_vret d_TrustDeskModel_product_37 rfl ⟨_, I_16, rfl, kKR_16, kKE_16, (by have := kKR_16.1 15 _ _ rfl; have := kKR_16.1 16 _ _ rfl; have := kKR_16.1 19 _ _ rfl; have := kKE_16.f yS; omega), (by first | (have hX := e19.symm.trans (p_lp_stop (show (p_pr1 pb pn pa (p_op pb pn pa 3)) s17 = s17 from if_neg (fun h9 => by omega))); rw [show p_pro pb pn pa (p_op pb pn pa 3) ps = s17 from (by exact hX)]; exact Z918) | (exfalso; have := kKR_16.1 15 _ _ rfl; have := kKR_16.1 16 _ _ rfl; have := kKR_16.1 19 _ _ rfl; have := kKE_16.f yS; omega))⟩
      · refine mv_iconst (v := 1) d_TrustDeskModel_isWell_7 (by decide) ?_
        refine mv_goto (tgt := 12) d_TrustDeskModel_isWell_8 (by decide) ?_
        refine mv_iret d_TrustDeskModel_isWell_12 rfl (by decide) ?_
        refine mv_if_eq_f (tgt := 37) d_TrustDeskModel_product_8 (by decide) (by decide) ?_
        refine mv_aload_n d_TrustDeskModel_product_11 rfl rfl ?_
        refine mv_bipush (v := 42) d_TrustDeskModel_product_12 (by decide) ?_
        obtain ⟨_, b24, -⟩ := I_16.1 _ _ h_q0_16
        refine mv_callV (kc1 := 0) (ks1 := 0) (kc' := 0) (ks' := 0) (As := [.int 42]) (st9 := [.int 42, .ref o0]) d_TrustDeskModel_product_14 lV_TrustDeskModel_234 b24 rfl (mj_enter (by decide) (Nat.le_of_ble_eq_true rfl) ?_) rfl (Nat.le_of_ble_eq_true rfl) (Nat.le_of_ble_eq_true rfl) (Nat.le_of_ble_eq_true rfl) (hst := rfl) (fun _ _ _ h => h)
        refine mv_aload_n d_TrustDeskModel_isSign_0 rfl rfl ?_
        obtain ⟨v26, q25⟩ := tm_atI I_16 h_q0_16 (k := 17) rfl
        refine tr_getK q25 d_TrustDeskModel_isSign_1 f_TrustDeskModel_198_13 ?_
        have := tm_rv q25
        refine mv_iconst (v := 4) d_TrustDeskModel_isSign_4 (by decide) ?_
        have := mz_hi v26
        refine mv_icmp_neZ (tgt := 20) (a := v26.toInt) (b := 4) d_TrustDeskModel_isSign_5 (by decide) rfl (by decide) (fun b27 => ?_) (fun b27 => ?_)
        · refine mv_iconst (v := 0) d_TrustDeskModel_isSign_20 (by decide) ?_
          refine mv_iret d_TrustDeskModel_isSign_21 rfl (by decide) ?_
          refine mv_if_eq_t (tgt := 37) d_TrustDeskModel_product_17 (by decide) (by decide) ?_
          exact mv_vret d_TrustDeskModel_product_37 rfl ⟨_, I_16, rfl, kKR_16, kKE_16, (by have := kKR_16.1 15 _ _ rfl; have := kKR_16.1 16 _ _ rfl; have := kKR_16.1 19 _ _ rfl; have := kKE_16.f yS; omega), (by first | (have := Z918.n4 (by omega) (by omega); have hX := e19.symm.trans (p_lp_stop (show (p_pr1 pb pn pa (p_op pb pn pa 3)) s17 = s17 from if_neg (fun h9 => by omega))); rw [show p_pro pb pn pa (p_op pb pn pa 3) ps = s17 from (by exact hX)]; exact Z918) | (exfalso; have := kKR_16.1 15 _ _ rfl; have := kKR_16.1 16 _ _ rfl; have := kKR_16.1 19 _ _ rfl; have := kKE_16.f yS; omega))⟩
        · refine mv_aload_n d_TrustDeskModel_isSign_8 rfl rfl ?_
          obtain ⟨v29, q28⟩ := tm_atI I_16 h_q0_16 (k := 18) rfl
          refine tr_getK q28 d_TrustDeskModel_isSign_9 f_TrustDeskModel_201_13 ?_
          have := kKR_16.f (k := 18) q28 rfl
          have := tm_rv q28
          refine mv_iload_n d_TrustDeskModel_isSign_12 rfl rfl ?_
          have := mz_hi v29
          refine mv_icmp_neZ (tgt := 20) (a := v29.toInt) (b := 42) d_TrustDeskModel_isSign_13 (by decide) rfl (by decide) (fun b30 => ?_) (fun b30 => ?_)
          · refine mv_iconst (v := 0) d_TrustDeskModel_isSign_20 (by decide) ?_
            refine mv_iret d_TrustDeskModel_isSign_21 rfl (by decide) ?_
            refine mv_if_eq_t (tgt := 37) d_TrustDeskModel_product_17 (by decide) (by decide) ?_
            exact mv_vret d_TrustDeskModel_product_37 rfl ⟨_, I_16, rfl, kKR_16, kKE_16, (by have := kKR_16.1 15 _ _ rfl; have := kKR_16.1 16 _ _ rfl; have := kKR_16.1 19 _ _ rfl; have := kKE_16.f yS; omega), (by first | (have := Z918.s4 (by omega) (by omega); have hX := e19.symm.trans (p_lp_stop (show (p_pr1 pb pn pa (p_op pb pn pa 3)) s17 = s17 from if_neg (fun h9 => by omega))); rw [show p_pro pb pn pa (p_op pb pn pa 3) ps = s17 from (by exact hX)]; exact Z918) | (exfalso; have := kKR_16.1 15 _ _ rfl; have := kKR_16.1 16 _ _ rfl; have := kKR_16.1 19 _ _ rfl; have := kKE_16.f yS; omega))⟩
          · refine mv_iconst (v := 1) d_TrustDeskModel_isSign_16 (by decide) ?_
            refine mv_goto (tgt := 21) d_TrustDeskModel_isSign_17 (by decide) ?_
            refine mv_iret d_TrustDeskModel_isSign_21 rfl (by decide) ?_
            refine mv_if_eq_f (tgt := 37) d_TrustDeskModel_product_17 (by decide) (by decide) ?_
            refine mv_aload_n d_TrustDeskModel_product_20 rfl rfl ?_
            obtain ⟨_, b37, -⟩ := I_16.1 _ _ h_q0_16
            refine mv_callV (kc' := 0) (ks' := 0) (As := []) (st9 := [.ref o0]) d_TrustDeskModel_product_21 lV_TrustDeskModel_237 b37 rfl (tc_TrustDeskModel_next_x (d := (d + 14)) (x9 := x9) (o0 := o0) h_q0_16 kKR_16 Z918.p I_16.start) rfl (Nat.le_of_ble_eq_true rfl) (Nat.le_of_ble_eq_true rfl) (Nat.le_of_ble_eq_true rfl) (hst := rfl) (fun b31r M32 n33 b31 => ?_)
            obtain ⟨T34, J35, rfl, R38, f39, f40, f41⟩ := b31
            have I36 := I_16.call J35 (tm_sub (by decide)) (Or.inl rfl)
            have t42 := J35.up h_q0_16
            have z43 := (rv_c I_16 J35 (I_16.up h_o0) (k := 19) rfl)
            have z44 := (rv_c I_16 J35 (I_16.up h_o0) (k := 22) rfl)
            have h46 : rv M_16 o0 16 + 1 ≤ rv M_16 o0 15 := (by have := kKR_16.1 15 _ _ rfl; have := kKR_16.1 16 _ _ rfl; have := kKR_16.1 19 _ _ rfl; have := kKE_16.f yS; omega)
            have E45 : rE M0 M32 o0 1 1 := kKE_16.next f39 f40 (rv_c I_16 J35 (I_16.up h_o0) (k := 19) rfl) (rE_ha I_16 J35 (I_16.up h_o0) (by decide)) (e := 1) h46 (by decide)
            obtain ⟨s47, e48⟩ : ∃ s9 : p_S, p_nx s17 = s9 := ⟨_, rfl⟩
            rw [e48] at f41
            have := f41.w
            have q49 := J35.keep h_q0_16 (by decide) q21
            refine mv_aload_n d_TrustDeskModel_product_24 rfl rfl ?_
            obtain ⟨_, b56, -⟩ := I36.1 _ _ t42
            refine mv_callV (kc' := 0) (ks' := 0) (As := []) (st9 := [.ref o0]) d_TrustDeskModel_product_25 lV_TrustDeskModel_294 b56 rfl (tc_TrustDeskModel_factor_q4_x (d := d) (x9 := x9) (o0 := o0) t42 R38 E45.1 (by have := R38.1 15 _ _ rfl; have := R38.1 16 _ _ rfl; have := R38.1 19 _ _ rfl; have := E45.f yS; omega) (by have := R38.1 15 _ _ rfl; have := R38.1 16 _ _ rfl; have := R38.1 19 _ _ rfl; have := E45.f yS; omega) f41 I36.start) rfl (Nat.le_of_ble_eq_true rfl) (Nat.le_of_ble_eq_true rfl) (Nat.le_of_ble_eq_true rfl) (hst := rfl) (fun b50r M51 n52 b50 => ?_)
            obtain ⟨T53, J54, rfl, R57, f58, f59, f60⟩ := b50
            have I55 := I36.call J54 (tm_sub (by decide)) (Or.inl rfl)
            have t61 := J54.up t42
            have E62 : rE M0 M51 o0 2 1 := E45.trans f58 (by decide) (yR.2 5 _ _ rfl 44).1 (by decide) (by decide)
            have := f58.w
            obtain ⟨s63, e64⟩ : ∃ s9 : p_S, p_fac pb pn pa (p_op pb pn pa 3) s47 = s9 := ⟨_, rfl⟩
            rw [e64] at f60
            have := f60.w
            refine mv_aload_n d_TrustDeskModel_product_28 rfl rfl ?_
            refine mv_bipush (v := (-3)) d_TrustDeskModel_product_29 (by decide) ?_
            obtain ⟨_, b71, -⟩ := I55.1 _ _ t61
            have : ((-3) : Int32).toInt = (-3) := by decide
            refine mv_callV (kc' := 0) (ks' := 0) (As := [.int (-3)]) (st9 := [.int (-3), .ref o0]) d_TrustDeskModel_product_31 lV_TrustDeskModel_279 b71 rfl (tc_TrustDeskModel_emits_x (d := (d + 14)) (x9 := x9) (o0 := o0) (x1 := (-3)) t61 R57 (by have := R57.1 15 _ _ rfl; have := R57.1 16 _ _ rfl; have := R57.1 19 _ _ rfl; have := E62.f yS; omega) (by decide) I55.start) rfl (Nat.le_of_ble_eq_true rfl) (Nat.le_of_ble_eq_true rfl) (Nat.le_of_ble_eq_true rfl) (hst := rfl) (fun b65r M66 n67 b65 => ?_)
            obtain ⟨T68, J69, rfl, R72, f73⟩ := b65
            have I70 := I55.call J69 (tm_sub (by decide)) (Or.inl rfl)
            have t74 := J69.up t61
            have z75 := (rv_c I55 J69 (I55.up h_o0) (k := 16) rfl)
            have z76 := (rv_c I55 J69 (I55.up h_o0) (k := 17) rfl)
            have z77 := (rv_c I55 J69 (I55.up h_o0) (k := 19) rfl)
            have z78 := (rv_c I55 J69 (I55.up h_o0) (k := 22) rfl)
            have E79 : rE M0 M66 o0 1 0 := E62.emit f73 (rE_hv I55 J69 (I55.up h_o0) 15 19 (by decide)) (yR.2 5 _ _ rfl 44).1 (by decide) (Or.inr (Or.inr ⟨by decide, by decide, by decide, by decide⟩)) (by decide)
            have Z980 : pO M66 o0 pb pn pa s63 := f60.same (rE_hv I55 J69 (I55.up h_o0) 14 20 (by decide)) (rv_c I55 J69 (I55.up h_o0) (k := 23) rfl) (ra_call I55 J69 (I55.up h_o0) (k := 13) rfl rfl rfl)
            refine mv_goto (tgt := 4) d_TrustDeskModel_product_34 (by decide) ?_
            have T81 : ∃ s1 : p_S, pO M66 o0 pb pn pa s1 ∧ p_lp pn (p_pr1 pb pn pa (p_op pb pn pa 3)) s1 = p_pro pb pn pa (p_op pb pn pa 3) ps := ⟨s63, Z980, (by have st : (p_pr1 pb pn pa (p_op pb pn pa 3)) s17 = s63 := (by have := Z918.s4 (by omega) (by omega); rw [show (p_pr1 pb pn pa (p_op pb pn pa 3)) s17 = p_fac pb pn pa (p_op pb pn pa 3) (p_nx s17) from if_pos ⟨by omega, by omega⟩]; simp only [e48, e64]); rw [← st, p_P.go (p_pr1_P (p_op_M _)) s17]; exact e19)⟩
            exact (ih16 T68 M66 n67 I70 t74 (by have := R72.1 15 _ _ rfl; have := R72.1 16 _ _ rfl; have := R72.1 19 _ _ rfl; have := E79.f yS; first | omega | decide | exact fun h9 => absurd (by decide) h9) R72 E79 T81 (by have := R72.1 15 _ _ rfl; have := R72.1 16 _ _ rfl; have := R72.1 19 _ _ rfl; have := E79.f yS; omega))
  have T82 : ∃ s1 : p_S, pO M2 o0 pb pn pa s1 ∧ p_lp pn (p_pr1 pb pn pa (p_op pb pn pa 3)) s1 = p_pro pb pn pa (p_op pb pn pa 3) ps := ⟨s14, f11, (by rw [← e15]; rfl)⟩
  exact mv_less (Nat.zero_le _) (Nat.zero_le _) (L4_16 4294967296 T4 M2 n3 I6 t12 (by have := R8.1 15 _ _ rfl; have := R8.1 16 _ _ rfl; have := R8.1 19 _ _ rfl; have := E13.f yS; first | omega | decide | exact fun h9 => absurd (by decide) h9) R8 E13 T82 (by have := R8.1 15 _ _ rfl; have := R8.1 16 _ _ rfl; have := R8.1 19 _ _ rfl; have := E13.f yS; omega))
def w_TrustDeskModel_sum_q4_x : List Nat := [1315, 1316, 1317, 1318, 1319, 1320, 1322, 20004, 20005]
set_option maxHeartbeats 100000000 in theorem tc_TrustDeskModel_sum_q4_x {g : mj_G} {l : Launch} {d : Nat} {T0 : tm_H} {M0 : mj_M} {n0 x9 : Nat} {o0 : Nat} (h_o0 : T0 o0 = some (0, 13, 0)) (yR : rI M0 o0) (yT : rT M0 o0) (yS : rv M0 o0 19 = 0 → ra M0 o0 5 44 ≤ rv M0 o0 16) (yL : rv M0 o0 19 ≠ 0 ∨ (1 ≤ rv M0 o0 22 ∧ rv M0 o0 22 ≤ 1)) {pb : Nat → Int} {pn : Nat} {pa : Int} {ps : p_S} (yO : pO M0 o0 pb pn pa ps) (I0 : tm_I tm_FT (tm_in w_TrustDeskModel_sum_q4_x) x9 T0 M0 n0 T0 M0 n0) : mj_Met g l kY_TrustDeskModel_sum (d + 17) [.ref o0] M0 n0 0 0 (tm_Q tm_FT (tm_in w_TrustDeskModel_sum_q4_x) x9 T0 M0 n0 (fun r _ M => r = none ∧ rI M o0 ∧ (rE M0 M o0 1 0) ∧ (rv M o0 19 = 0 → rv M o0 22 = rv M0 o0 22) ∧ (pO M o0 pb pn pa (p_sum pb pn pa (p_op pb pn pa 3) ps)))) := by
  refine mj_enter (by decide) (Nat.le_of_ble_eq_true rfl) ?_
  have yE0 := rE.rf yT
  have := yO.w
  refine mv_aload_n d_TrustDeskModel_sum_0 rfl rfl ?_
  obtain ⟨_, b7, -⟩ := I0.1 _ _ h_o0
  refine mv_callV (kc' := 0) (ks' := 0) (As := []) (st9 := [.ref o0]) d_TrustDeskModel_sum_1 lV_TrustDeskModel_297 b7 rfl (tc_TrustDeskModel_product_q4_x (d := d) (x9 := x9) (o0 := o0) h_o0 yR yE0.1 (by have := yR.1 15 _ _ rfl; have := yR.1 16 _ _ rfl; have := yR.1 19 _ _ rfl; have := yE0.f yS; omega) (by have := yR.1 15 _ _ rfl; have := yR.1 16 _ _ rfl; have := yR.1 19 _ _ rfl; have := yE0.f yS; omega) yO I0.start) rfl (Nat.le_of_ble_eq_true rfl) (Nat.le_of_ble_eq_true rfl) (Nat.le_of_ble_eq_true rfl) (hst := rfl) (fun b1r M2 n3 b1 => ?_)
  obtain ⟨T4, J5, rfl, R8, f9, f10, f11⟩ := b1
  have I6 := I0.call J5 (tm_sub (by decide)) (Or.inl rfl)
  have t12 := J5.up h_o0
  have E13 : rE M0 M2 o0 1 0 := yE0.trans f9 (by decide) (yR.2 5 _ _ rfl 44).1 (by decide) (by decide)
  have := f9.w
  obtain ⟨s14, e15⟩ : ∃ s9 : p_S, p_pro pb pn pa (p_op pb pn pa 3) ps = s9 := ⟨_, rfl⟩
  rw [e15] at f11
  have := f11.w
  have L4_16 : ∀ (k : Nat) (T_16 : tm_H) (M_16 : mj_M) (n_16 : Nat), tm_I tm_FT (tm_in w_TrustDeskModel_sum_q4_x) x9 T0 M0 n0 T_16 M_16 n_16 → T_16 o0 = some (0, 13, 0) → (rv M_16 o0 19 = 0 → rv M_16 o0 22 = rv M0 o0 22) → (rI M_16 o0) → (rE M0 M_16 o0 1 0) → (∃ s1 : p_S, pO M_16 o0 pb pn pa s1 ∧ p_lp pn (p_su1 pb pn pa (p_op pb pn pa 3)) s1 = p_sum pb pn pa (p_op pb pn pa 3) ps) → 5 * (401 - rv M_16 o0 16) - rv M_16 o0 19 < (k : Int) → mj_V g l kY_TrustDeskModel_sum (d + 17) 4 [(0, .ref o0)] [] M_16 n_16 0 0 (tm_Q tm_FT (tm_in w_TrustDeskModel_sum_q4_x) x9 T0 M0 n0 (fun r _ M => r = none ∧ rI M o0 ∧ (rE M0 M o0 1 0) ∧ (rv M o0 19 = 0 → rv M o0 22 = rv M0 o0 22) ∧ (pO M o0 pb pn pa (p_sum pb pn pa (p_op pb pn pa 3) ps)))) := by
    intro k16
    induction k16 with
    | zero =>
      intro T_16 M_16 n_16 I_16 h_q0_16 iv0_16 kKR_16 kKE_16 kKT9_16 hk16
      have := kKR_16.1 15 _ _ rfl
      have := kKR_16.1 16 _ _ rfl
      have := kKR_16.1 19 _ _ rfl
      exfalso; omega
    | succ k16 ih16 =>
      intro T_16 M_16 n_16 I_16 h_q0_16 iv0_16 kKR_16 kKE_16 kKT9_16 hk16
      have := kKE_16.f yS
      obtain ⟨s17, Z918, e19⟩ := kKT9_16
      have := Z918.w
      refine mv_aload_n d_TrustDeskModel_sum_4 rfl rfl ?_
      obtain ⟨_, b20, -⟩ := I_16.1 _ _ h_q0_16
      refine mv_callV (kc1 := 0) (ks1 := 0) (kc' := 0) (ks' := 0) (As := []) (st9 := [.ref o0]) d_TrustDeskModel_sum_5 lV_TrustDeskModel_230 b20 rfl (mj_enter (by decide) (Nat.le_of_ble_eq_true rfl) ?_) rfl (Nat.le_of_ble_eq_true rfl) (Nat.le_of_ble_eq_true rfl) (Nat.le_of_ble_eq_true rfl) (hst := rfl) (fun _ _ _ h => h)
      refine mv_aload_n d_TrustDeskModel_isWell_0 rfl rfl ?_
      obtain ⟨v22, q21⟩ := tm_atI I_16 h_q0_16 (k := 19) rfl
      refine tr_getK q21 d_TrustDeskModel_isWell_1 f_TrustDeskModel_224_13 ?_
      have := kKR_16.f (k := 19) q21 rfl
      have := tm_rv q21
      have := mz_hi v22
      refine mv_if_neZ (tgt := 11) (a := v22.toInt) d_TrustDeskModel_isWell_4 (by decide) rfl (fun b23 => ?_) (fun b23 => ?_)
      · refine mv_iconst (v := 0) d_TrustDeskModel_isWell_11 (by decide) ?_
        refine mv_iret d_TrustDeskModel_isWell_12 rfl (by decide) ?_
        refine mv_if_eq_t (tgt := 61) d_TrustDeskModel_sum_8 (by decide) (by decide) ?_
        exact mv_vret d_TrustDeskModel_sum_61 rfl ⟨_, I_16, rfl, kKR_16, kKE_16, (by have := kKR_16.1 15 _ _ rfl; have := kKR_16.1 16 _ _ rfl; have := kKR_16.1 19 _ _ rfl; have := kKE_16.f yS; omega), (by first | (have hX := e19.symm.trans (p_lp_stop (show (p_su1 pb pn pa (p_op pb pn pa 3)) s17 = s17 from if_neg (fun h9 => by omega))); rw [show p_sum pb pn pa (p_op pb pn pa 3) ps = s17 from (by exact hX)]; exact Z918) | (exfalso; have := kKR_16.1 15 _ _ rfl; have := kKR_16.1 16 _ _ rfl; have := kKR_16.1 19 _ _ rfl; have := kKE_16.f yS; omega))⟩
      · refine mv_iconst (v := 1) d_TrustDeskModel_isWell_7 (by decide) ?_
        refine mv_goto (tgt := 12) d_TrustDeskModel_isWell_8 (by decide) ?_
        refine mv_iret d_TrustDeskModel_isWell_12 rfl (by decide) ?_
        refine mv_if_eq_f (tgt := 61) d_TrustDeskModel_sum_8 (by decide) (by decide) ?_
        refine mv_aload_n d_TrustDeskModel_sum_11 rfl rfl ?_
        refine mv_bipush (v := 43) d_TrustDeskModel_sum_12 (by decide) ?_
        obtain ⟨_, b24, -⟩ := I_16.1 _ _ h_q0_16
        refine mv_callV (kc1 := 0) (ks1 := 0) (kc' := 0) (ks' := 0) (As := [.int 43]) (st9 := [.int 43, .ref o0]) d_TrustDeskModel_sum_14 lV_TrustDeskModel_234 b24 rfl (mj_enter (by decide) (Nat.le_of_ble_eq_true rfl) ?_) rfl (Nat.le_of_ble_eq_true rfl) (Nat.le_of_ble_eq_true rfl) (Nat.le_of_ble_eq_true rfl) (hst := rfl) (fun _ _ _ h => h)
        refine mv_aload_n d_TrustDeskModel_isSign_0 rfl rfl ?_
        obtain ⟨v26, q25⟩ := tm_atI I_16 h_q0_16 (k := 17) rfl
        refine tr_getK q25 d_TrustDeskModel_isSign_1 f_TrustDeskModel_198_13 ?_
        have := tm_rv q25
        refine mv_iconst (v := 4) d_TrustDeskModel_isSign_4 (by decide) ?_
        have := mz_hi v26
        refine mv_icmp_neZ (tgt := 20) (a := v26.toInt) (b := 4) d_TrustDeskModel_isSign_5 (by decide) rfl (by decide) (fun b27 => ?_) (fun b27 => ?_)
        · refine mv_iconst (v := 0) d_TrustDeskModel_isSign_20 (by decide) ?_
          refine mv_iret d_TrustDeskModel_isSign_21 rfl (by decide) ?_
          refine mv_if_ne_f (tgt := 29) d_TrustDeskModel_sum_17 (by decide) (by decide) ?_
          refine mv_aload_n d_TrustDeskModel_sum_20 rfl rfl ?_
          refine mv_bipush (v := 45) d_TrustDeskModel_sum_21 (by decide) ?_
          obtain ⟨_, b28, -⟩ := I_16.1 _ _ h_q0_16
          refine mv_callV (kc1 := 0) (ks1 := 0) (kc' := 0) (ks' := 0) (As := [.int 45]) (st9 := [.int 45, .ref o0]) d_TrustDeskModel_sum_23 lV_TrustDeskModel_234 b28 rfl (mj_enter (by decide) (Nat.le_of_ble_eq_true rfl) ?_) rfl (Nat.le_of_ble_eq_true rfl) (Nat.le_of_ble_eq_true rfl) (Nat.le_of_ble_eq_true rfl) (hst := rfl) (fun _ _ _ h => h)
          refine mv_aload_n d_TrustDeskModel_isSign_0 rfl rfl ?_
          refine tr_getK (k := 17) q25 d_TrustDeskModel_isSign_1 f_TrustDeskModel_198_13 ?_
          refine mv_iconst (v := 4) d_TrustDeskModel_isSign_4 (by decide) ?_
          have := mz_hi v26
          refine mv_icmp_neZ (tgt := 20) (a := v26.toInt) (b := 4) d_TrustDeskModel_isSign_5 (by decide) rfl (by decide) (fun b29 => ?_) (fun b29 => absurd b29 (by omega))
          refine mv_iconst (v := 0) d_TrustDeskModel_isSign_20 (by decide) ?_
          refine mv_iret d_TrustDeskModel_isSign_21 rfl (by decide) ?_
          refine mv_if_eq_t (tgt := 61) d_TrustDeskModel_sum_26 (by decide) (by decide) ?_
          exact mv_vret d_TrustDeskModel_sum_61 rfl ⟨_, I_16, rfl, kKR_16, kKE_16, (by have := kKR_16.1 15 _ _ rfl; have := kKR_16.1 16 _ _ rfl; have := kKR_16.1 19 _ _ rfl; have := kKE_16.f yS; omega), (by first | (have := Z918.n4 (by omega) (by omega); have hX := e19.symm.trans (p_lp_stop (show (p_su1 pb pn pa (p_op pb pn pa 3)) s17 = s17 from if_neg (fun h9 => by omega))); rw [show p_sum pb pn pa (p_op pb pn pa 3) ps = s17 from (by exact hX)]; exact Z918) | (exfalso; have := kKR_16.1 15 _ _ rfl; have := kKR_16.1 16 _ _ rfl; have := kKR_16.1 19 _ _ rfl; have := kKE_16.f yS; omega))⟩
        · refine mv_aload_n d_TrustDeskModel_isSign_8 rfl rfl ?_
          obtain ⟨v31, q30⟩ := tm_atI I_16 h_q0_16 (k := 18) rfl
          refine tr_getK q30 d_TrustDeskModel_isSign_9 f_TrustDeskModel_201_13 ?_
          have := kKR_16.f (k := 18) q30 rfl
          have := tm_rv q30
          refine mv_iload_n d_TrustDeskModel_isSign_12 rfl rfl ?_
          have := mz_hi v31
          refine mv_icmp_neZ (tgt := 20) (a := v31.toInt) (b := 43) d_TrustDeskModel_isSign_13 (by decide) rfl (by decide) (fun b32 => ?_) (fun b32 => ?_)
          · refine mv_iconst (v := 0) d_TrustDeskModel_isSign_20 (by decide) ?_
            refine mv_iret d_TrustDeskModel_isSign_21 rfl (by decide) ?_
            refine mv_if_ne_f (tgt := 29) d_TrustDeskModel_sum_17 (by decide) (by decide) ?_
            refine mv_aload_n d_TrustDeskModel_sum_20 rfl rfl ?_
            refine mv_bipush (v := 45) d_TrustDeskModel_sum_21 (by decide) ?_
            obtain ⟨_, b33, -⟩ := I_16.1 _ _ h_q0_16
            refine mv_callV (kc1 := 0) (ks1 := 0) (kc' := 0) (ks' := 0) (As := [.int 45]) (st9 := [.int 45, .ref o0]) d_TrustDeskModel_sum_23 lV_TrustDeskModel_234 b33 rfl (mj_enter (by decide) (Nat.le_of_ble_eq_true rfl) ?_) rfl (Nat.le_of_ble_eq_true rfl) (Nat.le_of_ble_eq_true rfl) (Nat.le_of_ble_eq_true rfl) (hst := rfl) (fun _ _ _ h => h)
            refine mv_aload_n d_TrustDeskModel_isSign_0 rfl rfl ?_
            refine tr_getK (k := 17) q25 d_TrustDeskModel_isSign_1 f_TrustDeskModel_198_13 ?_
            refine mv_iconst (v := 4) d_TrustDeskModel_isSign_4 (by decide) ?_
            have := mz_hi v26
            refine mv_icmp_neZ (tgt := 20) (a := v26.toInt) (b := 4) d_TrustDeskModel_isSign_5 (by decide) rfl (by decide) (fun b34 => absurd b34 (by omega)) (fun b34 => ?_)
            refine mv_aload_n d_TrustDeskModel_isSign_8 rfl rfl ?_
            refine tr_getK (k := 18) q30 d_TrustDeskModel_isSign_9 f_TrustDeskModel_201_13 ?_
            refine mv_iload_n d_TrustDeskModel_isSign_12 rfl rfl ?_
            have := mz_hi v31
            refine mv_icmp_neZ (tgt := 20) (a := v31.toInt) (b := 45) d_TrustDeskModel_isSign_13 (by decide) rfl (by decide) (fun b35 => ?_) (fun b35 => ?_)
            · refine mv_iconst (v := 0) d_TrustDeskModel_isSign_20 (by decide) ?_
              refine mv_iret d_TrustDeskModel_isSign_21 rfl (by decide) ?_
              refine mv_if_eq_t (tgt := 61) d_TrustDeskModel_sum_26 (by decide) (by decide) ?_
              exact mv_vret d_TrustDeskModel_sum_61 rfl ⟨_, I_16, rfl, kKR_16, kKE_16, (by have := kKR_16.1 15 _ _ rfl; have := kKR_16.1 16 _ _ rfl; have := kKR_16.1 19 _ _ rfl; have := kKE_16.f yS; omega), (by first | (have := Z918.s4 (by omega) (by omega); have hX := e19.symm.trans (p_lp_stop (show (p_su1 pb pn pa (p_op pb pn pa 3)) s17 = s17 from if_neg (fun h9 => by omega))); rw [show p_sum pb pn pa (p_op pb pn pa 3) ps = s17 from (by exact hX)]; exact Z918) | (exfalso; have := kKR_16.1 15 _ _ rfl; have := kKR_16.1 16 _ _ rfl; have := kKR_16.1 19 _ _ rfl; have := kKE_16.f yS; omega))⟩
            · refine mv_iconst (v := 1) d_TrustDeskModel_isSign_16 (by decide) ?_
              refine mv_goto (tgt := 21) d_TrustDeskModel_isSign_17 (by decide) ?_
              refine mv_iret d_TrustDeskModel_isSign_21 rfl (by decide) ?_
              refine mv_if_eq_f (tgt := 61) d_TrustDeskModel_sum_26 (by decide) (by decide) ?_
              refine mv_aload_n d_TrustDeskModel_sum_29 rfl rfl ?_
              refine mv_bipush (v := 43) d_TrustDeskModel_sum_30 (by decide) ?_
              obtain ⟨_, b36, -⟩ := I_16.1 _ _ h_q0_16
              refine mv_callV (kc1 := 0) (ks1 := 0) (kc' := 0) (ks' := 0) (As := [.int 43]) (st9 := [.int 43, .ref o0]) d_TrustDeskModel_sum_32 lV_TrustDeskModel_234 b36 rfl (mj_enter (by decide) (Nat.le_of_ble_eq_true rfl) ?_) rfl (Nat.le_of_ble_eq_true rfl) (Nat.le_of_ble_eq_true rfl) (Nat.le_of_ble_eq_true rfl) (hst := rfl) (fun _ _ _ h => h)
              refine mv_aload_n d_TrustDeskModel_isSign_0 rfl rfl ?_
              refine tr_getK (k := 17) q25 d_TrustDeskModel_isSign_1 f_TrustDeskModel_198_13 ?_
              refine mv_iconst (v := 4) d_TrustDeskModel_isSign_4 (by decide) ?_
              have := mz_hi v26
              refine mv_icmp_neZ (tgt := 20) (a := v26.toInt) (b := 4) d_TrustDeskModel_isSign_5 (by decide) rfl (by decide) (fun b37 => absurd b37 (by omega)) (fun b37 => ?_)
              refine mv_aload_n d_TrustDeskModel_isSign_8 rfl rfl ?_
              refine tr_getK (k := 18) q30 d_TrustDeskModel_isSign_9 f_TrustDeskModel_201_13 ?_
              refine mv_iload_n d_TrustDeskModel_isSign_12 rfl rfl ?_
              have := mz_hi v31
              refine mv_icmp_neZ (tgt := 20) (a := v31.toInt) (b := 43) d_TrustDeskModel_isSign_13 (by decide) rfl (by decide) (fun b38 => ?_) (fun b38 => absurd b38 (by omega))
              refine mv_iconst (v := 0) d_TrustDeskModel_isSign_20 (by decide) ?_
              refine mv_iret d_TrustDeskModel_isSign_21 rfl (by decide) ?_
              refine mv_istore_n (lv' := [(1, .int 0), (0, .ref o0)]) d_TrustDeskModel_sum_35 rfl (by decide) rfl ?_
              refine mv_aload_n d_TrustDeskModel_sum_36 rfl rfl ?_
              obtain ⟨_, b45, -⟩ := I_16.1 _ _ h_q0_16
              refine mv_callV (kc' := 0) (ks' := 0) (As := []) (st9 := [.ref o0]) d_TrustDeskModel_sum_37 lV_TrustDeskModel_237 b45 rfl (tc_TrustDeskModel_next_x (d := (d + 15)) (x9 := x9) (o0 := o0) h_q0_16 kKR_16 Z918.p I_16.start) rfl (Nat.le_of_ble_eq_true rfl) (Nat.le_of_ble_eq_true rfl) (Nat.le_of_ble_eq_true rfl) (hst := rfl) (fun b39r M40 n41 b39 => ?_)
              obtain ⟨T42, J43, rfl, R46, f47, f48, f49⟩ := b39
              have I44 := I_16.call J43 (tm_sub (by decide)) (Or.inl rfl)
              have t50 := J43.up h_q0_16
              have z51 := (rv_c I_16 J43 (I_16.up h_o0) (k := 19) rfl)
              have z52 := (rv_c I_16 J43 (I_16.up h_o0) (k := 22) rfl)
              have h54 : rv M_16 o0 16 + 1 ≤ rv M_16 o0 15 := (by have := kKR_16.1 15 _ _ rfl; have := kKR_16.1 16 _ _ rfl; have := kKR_16.1 19 _ _ rfl; have := kKE_16.f yS; omega)
              have E53 : rE M0 M40 o0 1 1 := kKE_16.next f47 f48 (rv_c I_16 J43 (I_16.up h_o0) (k := 19) rfl) (rE_ha I_16 J43 (I_16.up h_o0) (by decide)) (e := 1) h54 (by decide)
              obtain ⟨s55, e56⟩ : ∃ s9 : p_S, p_nx s17 = s9 := ⟨_, rfl⟩
              rw [e56] at f49
              have := f49.w
              have q57 := J43.keep h_q0_16 (by decide) q21
              refine mv_aload_n d_TrustDeskModel_sum_40 rfl rfl ?_
              obtain ⟨_, b64, -⟩ := I44.1 _ _ t50
              refine mv_callV (kc' := 0) (ks' := 0) (As := []) (st9 := [.ref o0]) d_TrustDeskModel_sum_41 lV_TrustDeskModel_297 b64 rfl (tc_TrustDeskModel_product_q4_x (d := d) (x9 := x9) (o0 := o0) t50 R46 E53.1 (by have := R46.1 15 _ _ rfl; have := R46.1 16 _ _ rfl; have := R46.1 19 _ _ rfl; have := E53.f yS; omega) (by have := R46.1 15 _ _ rfl; have := R46.1 16 _ _ rfl; have := R46.1 19 _ _ rfl; have := E53.f yS; omega) f49 I44.start) rfl (Nat.le_of_ble_eq_true rfl) (Nat.le_of_ble_eq_true rfl) (Nat.le_of_ble_eq_true rfl) (hst := rfl) (fun b58r M59 n60 b58 => ?_)
              obtain ⟨T61, J62, rfl, R65, f66, f67, f68⟩ := b58
              have I63 := I44.call J62 (tm_sub (by decide)) (Or.inl rfl)
              have t69 := J62.up t50
              have E70 : rE M0 M59 o0 2 1 := E53.trans f66 (by decide) (yR.2 5 _ _ rfl 44).1 (by decide) (by decide)
              have := f66.w
              obtain ⟨s71, e72⟩ : ∃ s9 : p_S, p_pro pb pn pa (p_op pb pn pa 3) s55 = s9 := ⟨_, rfl⟩
              rw [e72] at f68
              have := f68.w
              refine mv_aload_n d_TrustDeskModel_sum_44 rfl rfl ?_
              refine mv_iload_n d_TrustDeskModel_sum_45 rfl rfl ?_
              refine mv_if_eq_t (tgt := 53) d_TrustDeskModel_sum_46 (by decide) (by decide) ?_
              refine mv_bipush (v := (-2)) d_TrustDeskModel_sum_53 (by decide) ?_
              obtain ⟨_, b79, -⟩ := I63.1 _ _ t69
              have : ((-2) : Int32).toInt = (-2) := by decide
              refine mv_callV (kc' := 0) (ks' := 0) (As := [.int (-2)]) (st9 := [.int (-2), .ref o0]) d_TrustDeskModel_sum_55 lV_TrustDeskModel_279 b79 rfl (tc_TrustDeskModel_emits_x (d := (d + 15)) (x9 := x9) (o0 := o0) (x1 := (-2)) t69 R65 (by have := R65.1 15 _ _ rfl; have := R65.1 16 _ _ rfl; have := R65.1 19 _ _ rfl; have := E70.f yS; omega) (by decide) I63.start) rfl (Nat.le_of_ble_eq_true rfl) (Nat.le_of_ble_eq_true rfl) (Nat.le_of_ble_eq_true rfl) (hst := rfl) (fun b73r M74 n75 b73 => ?_)
              obtain ⟨T76, J77, rfl, R80, f81⟩ := b73
              have I78 := I63.call J77 (tm_sub (by decide)) (Or.inl rfl)
              have t82 := J77.up t69
              have z83 := (rv_c I63 J77 (I63.up h_o0) (k := 16) rfl)
              have z84 := (rv_c I63 J77 (I63.up h_o0) (k := 17) rfl)
              have z85 := (rv_c I63 J77 (I63.up h_o0) (k := 19) rfl)
              have z86 := (rv_c I63 J77 (I63.up h_o0) (k := 22) rfl)
              have E87 : rE M0 M74 o0 1 0 := E70.emit f81 (rE_hv I63 J77 (I63.up h_o0) 15 19 (by decide)) (yR.2 5 _ _ rfl 44).1 (by decide) (Or.inr (Or.inr ⟨by decide, by decide, by decide, by decide⟩)) (by decide)
              have Z988 : pO M74 o0 pb pn pa s71 := f68.same (rE_hv I63 J77 (I63.up h_o0) 14 20 (by decide)) (rv_c I63 J77 (I63.up h_o0) (k := 23) rfl) (ra_call I63 J77 (I63.up h_o0) (k := 13) rfl rfl rfl)
              refine mv_goto (tgt := 4) d_TrustDeskModel_sum_58 (by decide) ?_
              have T89 : ∃ s1 : p_S, pO M74 o0 pb pn pa s1 ∧ p_lp pn (p_su1 pb pn pa (p_op pb pn pa 3)) s1 = p_sum pb pn pa (p_op pb pn pa 3) ps := ⟨s71, Z988, (by have st : (p_su1 pb pn pa (p_op pb pn pa 3)) s17 = s71 := (by have := Z918.s4 (by omega) (by omega); rw [show (p_su1 pb pn pa (p_op pb pn pa 3)) s17 = p_pro pb pn pa (p_op pb pn pa 3) (p_nx s17) from if_pos ⟨by omega, by omega⟩]; simp only [e56, e72]); rw [← st, p_P.go (p_su1_P (p_op_M _)) s17]; exact e19)⟩
              refine mv_locals (lv' := [(0, .ref o0)]) (by intro q hq; simp only [List.mem_cons, List.not_mem_nil, or_false] at hq; rcases hq with rfl <;> rfl) ?_
              exact (ih16 T76 M74 n75 I78 t82 (by have := R80.1 15 _ _ rfl; have := R80.1 16 _ _ rfl; have := R80.1 19 _ _ rfl; have := E87.f yS; first | omega | decide | exact fun h9 => absurd (by decide) h9) R80 E87 T89 (by have := R80.1 15 _ _ rfl; have := R80.1 16 _ _ rfl; have := R80.1 19 _ _ rfl; have := E87.f yS; omega))
          · refine mv_iconst (v := 1) d_TrustDeskModel_isSign_16 (by decide) ?_
            refine mv_goto (tgt := 21) d_TrustDeskModel_isSign_17 (by decide) ?_
            refine mv_iret d_TrustDeskModel_isSign_21 rfl (by decide) ?_
            refine mv_if_ne_t (tgt := 29) d_TrustDeskModel_sum_17 (by decide) (by decide) ?_
            refine mv_aload_n d_TrustDeskModel_sum_29 rfl rfl ?_
            refine mv_bipush (v := 43) d_TrustDeskModel_sum_30 (by decide) ?_
            obtain ⟨_, b90, -⟩ := I_16.1 _ _ h_q0_16
            refine mv_callV (kc1 := 0) (ks1 := 0) (kc' := 0) (ks' := 0) (As := [.int 43]) (st9 := [.int 43, .ref o0]) d_TrustDeskModel_sum_32 lV_TrustDeskModel_234 b90 rfl (mj_enter (by decide) (Nat.le_of_ble_eq_true rfl) ?_) rfl (Nat.le_of_ble_eq_true rfl) (Nat.le_of_ble_eq_true rfl) (Nat.le_of_ble_eq_true rfl) (hst := rfl) (fun _ _ _ h => h)
            refine mv_aload_n d_TrustDeskModel_isSign_0 rfl rfl ?_
            refine tr_getK (k := 17) q25 d_TrustDeskModel_isSign_1 f_TrustDeskModel_198_13 ?_
            refine mv_iconst (v := 4) d_TrustDeskModel_isSign_4 (by decide) ?_
            have := mz_hi v26
            refine mv_icmp_neZ (tgt := 20) (a := v26.toInt) (b := 4) d_TrustDeskModel_isSign_5 (by decide) rfl (by decide) (fun b91 => absurd b91 (by omega)) (fun b91 => ?_)
            refine mv_aload_n d_TrustDeskModel_isSign_8 rfl rfl ?_
            refine tr_getK (k := 18) q30 d_TrustDeskModel_isSign_9 f_TrustDeskModel_201_13 ?_
            refine mv_iload_n d_TrustDeskModel_isSign_12 rfl rfl ?_
            have := mz_hi v31
            refine mv_icmp_neZ (tgt := 20) (a := v31.toInt) (b := 43) d_TrustDeskModel_isSign_13 (by decide) rfl (by decide) (fun b92 => absurd b92 (by omega)) (fun b92 => ?_)
            refine mv_iconst (v := 1) d_TrustDeskModel_isSign_16 (by decide) ?_
            refine mv_goto (tgt := 21) d_TrustDeskModel_isSign_17 (by decide) ?_
            refine mv_iret d_TrustDeskModel_isSign_21 rfl (by decide) ?_
            refine mv_istore_n (lv' := [(1, .int 1), (0, .ref o0)]) d_TrustDeskModel_sum_35 rfl (by decide) rfl ?_
            refine mv_aload_n d_TrustDeskModel_sum_36 rfl rfl ?_
            obtain ⟨_, b99, -⟩ := I_16.1 _ _ h_q0_16
            refine mv_callV (kc' := 0) (ks' := 0) (As := []) (st9 := [.ref o0]) d_TrustDeskModel_sum_37 lV_TrustDeskModel_237 b99 rfl (tc_TrustDeskModel_next_x (d := (d + 15)) (x9 := x9) (o0 := o0) h_q0_16 kKR_16 Z918.p I_16.start) rfl (Nat.le_of_ble_eq_true rfl) (Nat.le_of_ble_eq_true rfl) (Nat.le_of_ble_eq_true rfl) (hst := rfl) (fun b93r M94 n95 b93 => ?_)
            obtain ⟨T96, J97, rfl, R100, f101, f102, f103⟩ := b93
            have I98 := I_16.call J97 (tm_sub (by decide)) (Or.inl rfl)
            have t104 := J97.up h_q0_16
            have z105 := (rv_c I_16 J97 (I_16.up h_o0) (k := 19) rfl)
            have z106 := (rv_c I_16 J97 (I_16.up h_o0) (k := 22) rfl)
            have h108 : rv M_16 o0 16 + 1 ≤ rv M_16 o0 15 := (by have := kKR_16.1 15 _ _ rfl; have := kKR_16.1 16 _ _ rfl; have := kKR_16.1 19 _ _ rfl; have := kKE_16.f yS; omega)
            have E107 : rE M0 M94 o0 1 1 := kKE_16.next f101 f102 (rv_c I_16 J97 (I_16.up h_o0) (k := 19) rfl) (rE_ha I_16 J97 (I_16.up h_o0) (by decide)) (e := 1) h108 (by decide)
            obtain ⟨s109, e110⟩ : ∃ s9 : p_S, p_nx s17 = s9 := ⟨_, rfl⟩
            rw [e110] at f103
            have := f103.w
            have q111 := J97.keep h_q0_16 (by decide) q21
            refine mv_aload_n d_TrustDeskModel_sum_40 rfl rfl ?_
            obtain ⟨_, b118, -⟩ := I98.1 _ _ t104
            refine mv_callV (kc' := 0) (ks' := 0) (As := []) (st9 := [.ref o0]) d_TrustDeskModel_sum_41 lV_TrustDeskModel_297 b118 rfl (tc_TrustDeskModel_product_q4_x (d := d) (x9 := x9) (o0 := o0) t104 R100 E107.1 (by have := R100.1 15 _ _ rfl; have := R100.1 16 _ _ rfl; have := R100.1 19 _ _ rfl; have := E107.f yS; omega) (by have := R100.1 15 _ _ rfl; have := R100.1 16 _ _ rfl; have := R100.1 19 _ _ rfl; have := E107.f yS; omega) f103 I98.start) rfl (Nat.le_of_ble_eq_true rfl) (Nat.le_of_ble_eq_true rfl) (Nat.le_of_ble_eq_true rfl) (hst := rfl) (fun b112r M113 n114 b112 => ?_)
            obtain ⟨T115, J116, rfl, R119, f120, f121, f122⟩ := b112
            have I117 := I98.call J116 (tm_sub (by decide)) (Or.inl rfl)
            have t123 := J116.up t104
            have E124 : rE M0 M113 o0 2 1 := E107.trans f120 (by decide) (yR.2 5 _ _ rfl 44).1 (by decide) (by decide)
            have := f120.w
            obtain ⟨s125, e126⟩ : ∃ s9 : p_S, p_pro pb pn pa (p_op pb pn pa 3) s109 = s9 := ⟨_, rfl⟩
            rw [e126] at f122
            have := f122.w
            refine mv_aload_n d_TrustDeskModel_sum_44 rfl rfl ?_
            refine mv_iload_n d_TrustDeskModel_sum_45 rfl rfl ?_
            refine mv_if_eq_f (tgt := 53) d_TrustDeskModel_sum_46 (by decide) (by decide) ?_
            refine mv_iconst (v := (-1)) d_TrustDeskModel_sum_49 (by decide) ?_
            refine mv_goto (tgt := 55) d_TrustDeskModel_sum_50 (by decide) ?_
            obtain ⟨_, b133, -⟩ := I117.1 _ _ t123
            have : ((-1) : Int32).toInt = (-1) := by decide
            refine mv_callV (kc' := 0) (ks' := 0) (As := [.int (-1)]) (st9 := [.int (-1), .ref o0]) d_TrustDeskModel_sum_55 lV_TrustDeskModel_279 b133 rfl (tc_TrustDeskModel_emits_x (d := (d + 15)) (x9 := x9) (o0 := o0) (x1 := (-1)) t123 R119 (by have := R119.1 15 _ _ rfl; have := R119.1 16 _ _ rfl; have := R119.1 19 _ _ rfl; have := E124.f yS; omega) (by decide) I117.start) rfl (Nat.le_of_ble_eq_true rfl) (Nat.le_of_ble_eq_true rfl) (Nat.le_of_ble_eq_true rfl) (hst := rfl) (fun b127r M128 n129 b127 => ?_)
            obtain ⟨T130, J131, rfl, R134, f135⟩ := b127
            have I132 := I117.call J131 (tm_sub (by decide)) (Or.inl rfl)
            have t136 := J131.up t123
            have z137 := (rv_c I117 J131 (I117.up h_o0) (k := 16) rfl)
            have z138 := (rv_c I117 J131 (I117.up h_o0) (k := 17) rfl)
            have z139 := (rv_c I117 J131 (I117.up h_o0) (k := 19) rfl)
            have z140 := (rv_c I117 J131 (I117.up h_o0) (k := 22) rfl)
            have E141 : rE M0 M128 o0 1 0 := E124.emit f135 (rE_hv I117 J131 (I117.up h_o0) 15 19 (by decide)) (yR.2 5 _ _ rfl 44).1 (by decide) (Or.inr (Or.inr ⟨by decide, by decide, by decide, by decide⟩)) (by decide)
            have Z9142 : pO M128 o0 pb pn pa s125 := f122.same (rE_hv I117 J131 (I117.up h_o0) 14 20 (by decide)) (rv_c I117 J131 (I117.up h_o0) (k := 23) rfl) (ra_call I117 J131 (I117.up h_o0) (k := 13) rfl rfl rfl)
            refine mv_goto (tgt := 4) d_TrustDeskModel_sum_58 (by decide) ?_
            have T143 : ∃ s1 : p_S, pO M128 o0 pb pn pa s1 ∧ p_lp pn (p_su1 pb pn pa (p_op pb pn pa 3)) s1 = p_sum pb pn pa (p_op pb pn pa 3) ps := ⟨s125, Z9142, (by have st : (p_su1 pb pn pa (p_op pb pn pa 3)) s17 = s125 := (by have := Z918.s4 (by omega) (by omega); rw [show (p_su1 pb pn pa (p_op pb pn pa 3)) s17 = p_pro pb pn pa (p_op pb pn pa 3) (p_nx s17) from if_pos ⟨by omega, by omega⟩]; simp only [e110, e126]); rw [← st, p_P.go (p_su1_P (p_op_M _)) s17]; exact e19)⟩
            refine mv_locals (lv' := [(0, .ref o0)]) (by intro q hq; simp only [List.mem_cons, List.not_mem_nil, or_false] at hq; rcases hq with rfl <;> rfl) ?_
            exact (ih16 T130 M128 n129 I132 t136 (by have := R134.1 15 _ _ rfl; have := R134.1 16 _ _ rfl; have := R134.1 19 _ _ rfl; have := E141.f yS; first | omega | decide | exact fun h9 => absurd (by decide) h9) R134 E141 T143 (by have := R134.1 15 _ _ rfl; have := R134.1 16 _ _ rfl; have := R134.1 19 _ _ rfl; have := E141.f yS; omega))
  have T144 : ∃ s1 : p_S, pO M2 o0 pb pn pa s1 ∧ p_lp pn (p_su1 pb pn pa (p_op pb pn pa 3)) s1 = p_sum pb pn pa (p_op pb pn pa 3) ps := ⟨s14, f11, (by rw [← e15]; rfl)⟩
  exact mv_less (Nat.zero_le _) (Nat.zero_le _) (L4_16 4294967296 T4 M2 n3 I6 t12 (by have := R8.1 15 _ _ rfl; have := R8.1 16 _ _ rfl; have := R8.1 19 _ _ rfl; have := E13.f yS; first | omega | decide | exact fun h9 => absurd (by decide) h9) R8 E13 T144 (by have := R8.1 15 _ _ rfl; have := R8.1 16 _ _ rfl; have := R8.1 19 _ _ rfl; have := E13.f yS; omega))
def w_TrustDeskModel_factor_q5_x : List Nat := [1315, 1316, 1317, 1318, 1319, 1320, 1322, 20004, 20005]
set_option maxHeartbeats 100000000 in theorem tc_TrustDeskModel_factor_q5_x {g : mj_G} {l : Launch} {d : Nat} {T0 : tm_H} {M0 : mj_M} {n0 x9 : Nat} {o0 : Nat} (h_o0 : T0 o0 = some (0, 13, 0)) (yR : rI M0 o0) (yT : rT M0 o0) (yS : rv M0 o0 19 = 0 → ra M0 o0 5 44 ≤ rv M0 o0 16) (yL : rv M0 o0 19 ≠ 0 ∨ (0 ≤ rv M0 o0 22 ∧ rv M0 o0 22 ≤ 0)) {pb : Nat → Int} {pn : Nat} {pa : Int} {ps : p_S} (yO : pO M0 o0 pb pn pa ps) (I0 : tm_I tm_FT (tm_in w_TrustDeskModel_factor_q5_x) x9 T0 M0 n0 T0 M0 n0) : mj_Met g l kY_TrustDeskModel_factor (d + 18) [.ref o0] M0 n0 0 0 (tm_Q tm_FT (tm_in w_TrustDeskModel_factor_q5_x) x9 T0 M0 n0 (fun r _ M => r = none ∧ rI M o0 ∧ (rE M0 M o0 1 0) ∧ (rv M o0 19 = 0 → rv M o0 22 = rv M0 o0 22) ∧ (pO M o0 pb pn pa (p_fac pb pn pa (p_op pb pn pa 4) ps)))) := by
  refine mj_enter (by decide) (Nat.le_of_ble_eq_true rfl) ?_
  have yE0 := rE.rf yT
  have := yO.w
  refine mv_aload_n d_TrustDeskModel_factor_0 rfl rfl ?_
  obtain ⟨_, b1, -⟩ := I0.1 _ _ h_o0
  refine mv_callV (kc1 := 0) (ks1 := 0) (kc' := 0) (ks' := 0) (As := []) (st9 := [.ref o0]) d_TrustDeskModel_factor_1 lV_TrustDeskModel_230 b1 rfl (mj_enter (by decide) (Nat.le_of_ble_eq_true rfl) ?_) rfl (Nat.le_of_ble_eq_true rfl) (Nat.le_of_ble_eq_true rfl) (Nat.le_of_ble_eq_true rfl) (hst := rfl) (fun _ _ _ h => h)
  refine mv_aload_n d_TrustDeskModel_isWell_0 rfl rfl ?_
  obtain ⟨v3, q2⟩ := tm_atI I0 h_o0 (k := 19) rfl
  refine tr_getK q2 d_TrustDeskModel_isWell_1 f_TrustDeskModel_224_13 ?_
  have := yR.f (k := 19) q2 rfl
  have := tm_rv q2
  have := mz_hi v3
  refine mv_if_neZ (tgt := 11) (a := v3.toInt) d_TrustDeskModel_isWell_4 (by decide) rfl (fun b4 => ?_) (fun b4 => ?_)
  · refine mv_iconst (v := 0) d_TrustDeskModel_isWell_11 (by decide) ?_
    refine mv_iret d_TrustDeskModel_isWell_12 rfl (by decide) ?_
    refine mv_if_ne_f (tgt := 8) d_TrustDeskModel_factor_4 (by decide) (by decide) ?_
    exact mv_vret d_TrustDeskModel_factor_7 rfl ⟨_, I0, rfl, yR, yE0.vac (by have := yR.1 15 _ _ rfl; have := yR.1 16 _ _ rfl; have := yR.1 19 _ _ rfl; have := yE0.f yS; omega) 1 0, (by have := yR.1 15 _ _ rfl; have := yR.1 16 _ _ rfl; have := yR.1 19 _ _ rfl; have := yE0.f yS; omega), (by first | (rw [show p_fac pb pn pa (p_op pb pn pa 4) ps = ps from (by have hop : (p_op pb pn pa 4) ps = p_sg pb pn 41 (p_sum pb pn pa (p_op pb pn pa 3) (p_nx ps)) := rfl; unfold p_fac; (try simp only [hop]); skip; ((repeat' (first | (with_reducible rfl) | split)) <;> (exfalso; omega)))]; exact yO) | (exfalso; have := yR.1 15 _ _ rfl; have := yR.1 16 _ _ rfl; have := yR.1 19 _ _ rfl; have := yE0.f yS; omega))⟩
  · refine mv_iconst (v := 1) d_TrustDeskModel_isWell_7 (by decide) ?_
    refine mv_goto (tgt := 12) d_TrustDeskModel_isWell_8 (by decide) ?_
    refine mv_iret d_TrustDeskModel_isWell_12 rfl (by decide) ?_
    refine mv_if_ne_t (tgt := 8) d_TrustDeskModel_factor_4 (by decide) (by decide) ?_
    refine mv_aload_n d_TrustDeskModel_factor_8 rfl rfl ?_
    obtain ⟨v6, q5⟩ := tm_atI I0 h_o0 (k := 17) rfl
    refine tr_getK q5 d_TrustDeskModel_factor_9 f_TrustDeskModel_198_13 ?_
    have := tm_rv q5
    refine mv_iconst (v := 2) d_TrustDeskModel_factor_12 (by decide) ?_
    have := mz_hi v6
    refine mv_icmp_neZ (tgt := 31) (a := v6.toInt) (b := 2) d_TrustDeskModel_factor_13 (by decide) rfl (by decide) (fun b7 => ?_) (fun b7 => ?_)
    · refine mv_aload_n d_TrustDeskModel_factor_31 rfl rfl ?_
      refine tr_getK (k := 17) q5 d_TrustDeskModel_factor_32 f_TrustDeskModel_198_13 ?_
      refine mv_iconst (v := 3) d_TrustDeskModel_factor_35 (by decide) ?_
      have := mz_hi v6
      refine mv_icmp_neZ (tgt := 77) (a := v6.toInt) (b := 3) d_TrustDeskModel_factor_36 (by decide) rfl (by decide) (fun b8 => ?_) (fun b8 => ?_)
      · refine mv_aload_n d_TrustDeskModel_factor_77 rfl rfl ?_
        refine mv_bipush (v := 40) d_TrustDeskModel_factor_78 (by decide) ?_
        obtain ⟨_, b9, -⟩ := I0.1 _ _ h_o0
        refine mv_callV (kc1 := 0) (ks1 := 0) (kc' := 0) (ks' := 0) (As := [.int 40]) (st9 := [.int 40, .ref o0]) d_TrustDeskModel_factor_80 lV_TrustDeskModel_234 b9 rfl (mj_enter (by decide) (Nat.le_of_ble_eq_true rfl) ?_) rfl (Nat.le_of_ble_eq_true rfl) (Nat.le_of_ble_eq_true rfl) (Nat.le_of_ble_eq_true rfl) (hst := rfl) (fun _ _ _ h => h)
        refine mv_aload_n d_TrustDeskModel_isSign_0 rfl rfl ?_
        refine tr_getK (k := 17) q5 d_TrustDeskModel_isSign_1 f_TrustDeskModel_198_13 ?_
        refine mv_iconst (v := 4) d_TrustDeskModel_isSign_4 (by decide) ?_
        have := mz_hi v6
        refine mv_icmp_neZ (tgt := 20) (a := v6.toInt) (b := 4) d_TrustDeskModel_isSign_5 (by decide) rfl (by decide) (fun b10 => ?_) (fun b10 => ?_)
        · refine mv_iconst (v := 0) d_TrustDeskModel_isSign_20 (by decide) ?_
          refine mv_iret d_TrustDeskModel_isSign_21 rfl (by decide) ?_
          refine mv_if_eq_t (tgt := 113) d_TrustDeskModel_factor_83 (by decide) (by decide) ?_
          refine mv_aload_n d_TrustDeskModel_factor_113 rfl rfl ?_
          refine mv_iconst (v := 1) d_TrustDeskModel_factor_114 (by decide) ?_
          obtain ⟨_, b17, -⟩ := I0.1 _ _ h_o0
          have : (1 : Int32).toInt = 1 := by decide
          refine mv_callV (kc' := 0) (ks' := 0) (As := [.int 1]) (st9 := [.int 1, .ref o0]) d_TrustDeskModel_factor_115 lV_TrustDeskModel_240 b17 rfl (tc_TrustDeskModel_fails_x (d := (d + 17)) (x9 := x9) (o0 := o0) (x1 := 1) h_o0 yR (by decide) yO I0.start) rfl (Nat.le_of_ble_eq_true rfl) (Nat.le_of_ble_eq_true rfl) (Nat.le_of_ble_eq_true rfl) (hst := rfl) (fun b11r M12 n13 b11 => ?_)
          obtain ⟨T14, J15, rfl, R18, f19, f20⟩ := b11
          have I16 := I0.call J15 (tm_sub (by decide)) (Or.inl rfl)
          have t21 := J15.up h_o0
          have z22 := (rv_c I0 J15 (I0.up h_o0) (k := 16) rfl)
          have z23 := (rv_c I0 J15 (I0.up h_o0) (k := 17) rfl)
          have z24 := (rv_c I0 J15 (I0.up h_o0) (k := 22) rfl)
          have E25 : rE M0 M12 o0 0 0 := yE0.fails (rE_hv I0 J15 (I0.up h_o0) 15 18 (by decide)) (rE_ha I0 J15 (I0.up h_o0) (by decide)) f19 0 0
          rw [show (1 : Int32).toInt = 1 from by decide] at f20
          obtain ⟨s26, e27⟩ : ∃ s9 : p_S, p_fl pb pn 1 ps = s9 := ⟨_, rfl⟩
          rw [e27] at f20
          have := f20.w
          have q28 := J15.keep h_o0 (by decide) q5
          exact mv_vret d_TrustDeskModel_factor_118 rfl ⟨_, I16, rfl, R18, E25.vac (by have := R18.1 15 _ _ rfl; have := R18.1 16 _ _ rfl; have := R18.1 19 _ _ rfl; have := E25.f yS; omega) 1 0, (by have := R18.1 15 _ _ rfl; have := R18.1 16 _ _ rfl; have := R18.1 19 _ _ rfl; have := E25.f yS; omega), (by first | (have := yO.n4 (by omega) (by omega); have := yO.n3 (by omega) (by omega); have := yO.n2 (by omega) (by omega); rw [show p_fac pb pn pa (p_op pb pn pa 4) ps = s26 from (by have hop : (p_op pb pn pa 4) ps = p_sg pb pn 41 (p_sum pb pn pa (p_op pb pn pa 3) (p_nx ps)) := rfl; unfold p_fac; (try simp only [hop]); (try simp only [e27]); ((repeat' (first | (with_reducible rfl) | split)) <;> (exfalso; omega)))]; exact f20) | (exfalso; have := R18.1 15 _ _ rfl; have := R18.1 16 _ _ rfl; have := R18.1 19 _ _ rfl; have := E25.f yS; omega))⟩
        · refine mv_aload_n d_TrustDeskModel_isSign_8 rfl rfl ?_
          obtain ⟨v30, q29⟩ := tm_atI I0 h_o0 (k := 18) rfl
          refine tr_getK q29 d_TrustDeskModel_isSign_9 f_TrustDeskModel_201_13 ?_
          have := yR.f (k := 18) q29 rfl
          have := tm_rv q29
          refine mv_iload_n d_TrustDeskModel_isSign_12 rfl rfl ?_
          have := mz_hi v30
          refine mv_icmp_neZ (tgt := 20) (a := v30.toInt) (b := 40) d_TrustDeskModel_isSign_13 (by decide) rfl (by decide) (fun b31 => ?_) (fun b31 => ?_)
          · refine mv_iconst (v := 0) d_TrustDeskModel_isSign_20 (by decide) ?_
            refine mv_iret d_TrustDeskModel_isSign_21 rfl (by decide) ?_
            refine mv_if_eq_t (tgt := 113) d_TrustDeskModel_factor_83 (by decide) (by decide) ?_
            refine mv_aload_n d_TrustDeskModel_factor_113 rfl rfl ?_
            refine mv_iconst (v := 1) d_TrustDeskModel_factor_114 (by decide) ?_
            obtain ⟨_, b38, -⟩ := I0.1 _ _ h_o0
            have : (1 : Int32).toInt = 1 := by decide
            refine mv_callV (kc' := 0) (ks' := 0) (As := [.int 1]) (st9 := [.int 1, .ref o0]) d_TrustDeskModel_factor_115 lV_TrustDeskModel_240 b38 rfl (tc_TrustDeskModel_fails_x (d := (d + 17)) (x9 := x9) (o0 := o0) (x1 := 1) h_o0 yR (by decide) yO I0.start) rfl (Nat.le_of_ble_eq_true rfl) (Nat.le_of_ble_eq_true rfl) (Nat.le_of_ble_eq_true rfl) (hst := rfl) (fun b32r M33 n34 b32 => ?_)
            obtain ⟨T35, J36, rfl, R39, f40, f41⟩ := b32
            have I37 := I0.call J36 (tm_sub (by decide)) (Or.inl rfl)
            have t42 := J36.up h_o0
            have z43 := (rv_c I0 J36 (I0.up h_o0) (k := 16) rfl)
            have z44 := (rv_c I0 J36 (I0.up h_o0) (k := 17) rfl)
            have z45 := (rv_c I0 J36 (I0.up h_o0) (k := 22) rfl)
            have E46 : rE M0 M33 o0 0 0 := yE0.fails (rE_hv I0 J36 (I0.up h_o0) 15 18 (by decide)) (rE_ha I0 J36 (I0.up h_o0) (by decide)) f40 0 0
            rw [show (1 : Int32).toInt = 1 from by decide] at f41
            obtain ⟨s47, e48⟩ : ∃ s9 : p_S, p_fl pb pn 1 ps = s9 := ⟨_, rfl⟩
            rw [e48] at f41
            have := f41.w
            have q49 := J36.keep h_o0 (by decide) q5
            have q50 := J36.keep h_o0 (by decide) q29
            exact mv_vret d_TrustDeskModel_factor_118 rfl ⟨_, I37, rfl, R39, E46.vac (by have := R39.1 15 _ _ rfl; have := R39.1 16 _ _ rfl; have := R39.1 19 _ _ rfl; have := E46.f yS; omega) 1 0, (by have := R39.1 15 _ _ rfl; have := R39.1 16 _ _ rfl; have := R39.1 19 _ _ rfl; have := E46.f yS; omega), (by first | (have := yO.s4 (by omega) (by omega); rw [show p_fac pb pn pa (p_op pb pn pa 4) ps = s47 from (by have hop : (p_op pb pn pa 4) ps = p_sg pb pn 41 (p_sum pb pn pa (p_op pb pn pa 3) (p_nx ps)) := rfl; unfold p_fac; (try simp only [hop]); (try simp only [e48]); ((repeat' (first | (with_reducible rfl) | split)) <;> (exfalso; omega)))]; exact f41) | (exfalso; have := R39.1 15 _ _ rfl; have := R39.1 16 _ _ rfl; have := R39.1 19 _ _ rfl; have := E46.f yS; omega))⟩
          · refine mv_iconst (v := 1) d_TrustDeskModel_isSign_16 (by decide) ?_
            refine mv_goto (tgt := 21) d_TrustDeskModel_isSign_17 (by decide) ?_
            refine mv_iret d_TrustDeskModel_isSign_21 rfl (by decide) ?_
            refine mv_if_eq_f (tgt := 113) d_TrustDeskModel_factor_83 (by decide) (by decide) ?_
            refine mv_aload_n d_TrustDeskModel_factor_86 rfl rfl ?_
            obtain ⟨_, b57, -⟩ := I0.1 _ _ h_o0
            refine mv_callV (kc' := 0) (ks' := 0) (As := []) (st9 := [.ref o0]) d_TrustDeskModel_factor_87 lV_TrustDeskModel_285 b57 rfl (tc_TrustDeskModel_opens_x (d := (d + 15)) (x9 := x9) (o0 := o0) h_o0 yR yE0.1 (by have := yR.1 15 _ _ rfl; have := yR.1 16 _ _ rfl; have := yR.1 19 _ _ rfl; have := yE0.f yS; omega) (by have := yR.1 15 _ _ rfl; have := yR.1 16 _ _ rfl; have := yR.1 19 _ _ rfl; have := yE0.f yS; omega) (by have := yR.1 15 _ _ rfl; have := yR.1 16 _ _ rfl; have := yR.1 19 _ _ rfl; have := yE0.f yS; omega) (by have := yR.1 15 _ _ rfl; have := yR.1 16 _ _ rfl; have := yR.1 19 _ _ rfl; have := yE0.f yS; omega) yO I0.start) rfl (Nat.le_of_ble_eq_true rfl) (Nat.le_of_ble_eq_true rfl) (Nat.le_of_ble_eq_true rfl) (hst := rfl) (fun b51r M52 n53 b51 => ?_)
            obtain ⟨T54, J55, rfl, R58, f59, f60, f61⟩ := b51
            have I56 := I0.call J55 (tm_sub (by decide)) (Or.inl rfl)
            have t62 := J55.up h_o0
            have E63 : rE M0 M52 o0 0 1 := yE0.trans f59 (by decide) (yR.2 5 _ _ rfl 44).1 (by decide) (by decide)
            have := f59.w
            rw [if_neg (by have := yR.1 15 _ _ rfl; have := yR.1 16 _ _ rfl; have := yR.1 19 _ _ rfl; have := yE0.f yS; omega)] at f61
            obtain ⟨s64, e65⟩ : ∃ s9 : p_S, p_nx ps = s9 := ⟨_, rfl⟩
            rw [e65] at f61
            have := f61.w
            refine mv_aload_n d_TrustDeskModel_factor_90 rfl rfl ?_
            obtain ⟨_, b72, -⟩ := I56.1 _ _ t62
            refine mv_callV (kc' := 0) (ks' := 0) (As := []) (st9 := [.ref o0]) d_TrustDeskModel_factor_91 lV_TrustDeskModel_288 b72 rfl (tc_TrustDeskModel_sum_q4_x (d := d) (x9 := x9) (o0 := o0) t62 R58 E63.1 (by have := R58.1 15 _ _ rfl; have := R58.1 16 _ _ rfl; have := R58.1 19 _ _ rfl; have := E63.f yS; omega) (by have := R58.1 15 _ _ rfl; have := R58.1 16 _ _ rfl; have := R58.1 19 _ _ rfl; have := E63.f yS; omega) f61 I56.start) rfl (Nat.le_of_ble_eq_true rfl) (Nat.le_of_ble_eq_true rfl) (Nat.le_of_ble_eq_true rfl) (hst := rfl) (fun b66r M67 n68 b66 => ?_)
            obtain ⟨T69, J70, rfl, R73, f74, f75, f76⟩ := b66
            have I71 := I56.call J70 (tm_sub (by decide)) (Or.inl rfl)
            have t77 := J70.up t62
            have E78 : rE M0 M67 o0 1 1 := E63.trans f74 (by decide) (yR.2 5 _ _ rfl 44).1 (by decide) (by decide)
            have := f74.w
            obtain ⟨s79, e80⟩ : ∃ s9 : p_S, p_sum pb pn pa (p_op pb pn pa 3) s64 = s9 := ⟨_, rfl⟩
            rw [e80] at f76
            have := f76.w
            refine mv_aload_n d_TrustDeskModel_factor_94 rfl rfl ?_
            refine mv_bipush (v := 41) d_TrustDeskModel_factor_95 (by decide) ?_
            obtain ⟨_, b87, -⟩ := I71.1 _ _ t77
            have : (41 : Int32).toInt = 41 := by decide
            refine mv_callV (kc' := 0) (ks' := 0) (As := [.int 41]) (st9 := [.int 41, .ref o0]) d_TrustDeskModel_factor_97 lV_TrustDeskModel_291 b87 rfl (tc_TrustDeskModel_wantSign_x (d := (d + 15)) (x9 := x9) (o0 := o0) (x1 := 41) t77 R73 E78.1 (by have := R73.1 15 _ _ rfl; have := R73.1 16 _ _ rfl; have := R73.1 19 _ _ rfl; have := E78.f yS; omega) (by decide) f76 I71.start) rfl (Nat.le_of_ble_eq_true rfl) (Nat.le_of_ble_eq_true rfl) (Nat.le_of_ble_eq_true rfl) (hst := rfl) (fun b81r M82 n83 b81 => ?_)
            obtain ⟨T84, J85, rfl, R88, f89, f90⟩ := b81
            have I86 := I71.call J85 (tm_sub (by decide)) (Or.inl rfl)
            have t91 := J85.up t77
            have z92 := (rv_c I71 J85 (I71.up h_o0) (k := 22) rfl)
            have E93 : rE M0 M82 o0 1 2 := E78.trans f89 (by decide) (yR.2 5 _ _ rfl 44).1 (by decide) (by decide)
            have := f89.w
            rw [show (41 : Int32).toInt = 41 from by decide] at f90
            obtain ⟨s94, e95⟩ : ∃ s9 : p_S, p_sg pb pn 41 s79 = s9 := ⟨_, rfl⟩
            rw [e95] at f90
            have := f90.w
            refine mv_aload_n d_TrustDeskModel_factor_100 rfl rfl ?_
            refine mv_dup d_TrustDeskModel_factor_101 rfl ?_
            obtain ⟨v97, q96⟩ := tm_atI I86 t91 (k := 22) rfl
            refine tr_getK q96 d_TrustDeskModel_factor_102 f_TrustDeskModel_276_13 ?_
            have := (tm_rv q96).symm.trans z92
            have := tm_rv q96
            refine mv_iconst (v := 1) d_TrustDeskModel_factor_105 (by decide) ?_
            refine mv_isub d_TrustDeskModel_factor_106 ?_
            have : rv M82 o0 19 = 0 → (v97 - 1 : Int32).toInt = v97.toInt - 1 := fun h9 => mz_sub2 rfl (by decide) (by omega) (by omega)
            refine tr_putR (k := 22) I86 R88 t91 rfl ⟨_, rfl⟩ (fun _ h => by cases h) rfl (fun lo hi h => by cases h) (Or.inl (by decide)) d_TrustDeskModel_factor_107 p_TrustDeskModel_276_13 rfl rfl (fun M98 I99 q100 K101 R102 A103 V104 => ?_)
            have z105 := (V104 16 (by decide))
            have z106 := (V104 17 (by decide))
            have z107 := (V104 19 (by decide))
            have z108 : rv M98 o0 22 = (v97 - 1).toInt := tm_rv q100
            have E109 : rE M0 M98 o0 1 2 := E93.same (fun k h1 h2 => V104 k (by omega)) (fun k h1 h2 => A103 k (by omega))
            have Z9110 : pO M98 o0 pb pn pa s94 := f90.same (fun k h1 h2 => V104 k (by omega)) (V104 23 (by decide)) (A103 13 (by decide))
            refine mv_goto (tgt := 118) d_TrustDeskModel_factor_110 (by decide) ?_
            exact mv_vret d_TrustDeskModel_factor_118 rfl ⟨_, I99, rfl, R102, E109.less (by decide), (by have := R102.1 15 _ _ rfl; have := R102.1 16 _ _ rfl; have := R102.1 19 _ _ rfl; have := E109.f yS; omega), (by first | (have := yO.s4 (by omega) (by omega); rw [show p_fac pb pn pa (p_op pb pn pa 4) ps = s94 from (by have hop : (p_op pb pn pa 4) ps = p_sg pb pn 41 (p_sum pb pn pa (p_op pb pn pa 3) (p_nx ps)) := rfl; unfold p_fac; (try simp only [hop]); (try simp only [e65, e80, e95]); ((repeat' (first | (with_reducible rfl) | split)) <;> (exfalso; omega)))]; exact Z9110) | (exfalso; have := R102.1 15 _ _ rfl; have := R102.1 16 _ _ rfl; have := R102.1 19 _ _ rfl; have := E109.f yS; omega))⟩
      · refine mv_aload_n d_TrustDeskModel_factor_39 rfl rfl ?_
        obtain ⟨_, b117, -⟩ := I0.1 _ _ h_o0
        refine mv_callV (kc' := 0) (ks' := 0) (As := []) (st9 := [.ref o0]) d_TrustDeskModel_factor_40 lV_TrustDeskModel_282 b117 rfl (tc_TrustDeskModel_name_x (d := (d + 12)) (x9 := x9) (o0 := o0) h_o0 yR (by have := yR.1 15 _ _ rfl; have := yR.1 16 _ _ rfl; have := yR.1 19 _ _ rfl; have := yE0.f yS; omega) yO I0.start) rfl (Nat.le_of_ble_eq_true rfl) (Nat.le_of_ble_eq_true rfl) (Nat.le_of_ble_eq_true rfl) (hst := rfl) (fun b111r M112 n113 b111 => ?_)
        obtain ⟨T114, J115, v118, rfl, R119, f120, f121⟩ := b111
        have I116 := I0.call J115 (tm_sub (by decide)) (Or.inl rfl)
        have t122 := J115.up h_o0
        have z123 := (rv_c I0 J115 (I0.up h_o0) (k := 16) rfl)
        have z124 := (rv_c I0 J115 (I0.up h_o0) (k := 17) rfl)
        have z125 := (rv_c I0 J115 (I0.up h_o0) (k := 19) rfl)
        have z126 := (rv_c I0 J115 (I0.up h_o0) (k := 22) rfl)
        have E127 : rE M0 M112 o0 0 0 := yE0.same (rE_hv I0 J115 (I0.up h_o0) 15 19 (by decide)) (rE_ha I0 J115 (I0.up h_o0) (by decide))
        have Z9128 : pO M112 o0 pb pn pa ps := yO.same (rE_hv I0 J115 (I0.up h_o0) 14 20 (by decide)) (rv_c I0 J115 (I0.up h_o0) (k := 23) rfl) (ra_call I0 J115 (I0.up h_o0) (k := 13) rfl rfl rfl)
        have q129 := J115.keep h_o0 (by decide) q2
        have q130 := J115.keep h_o0 (by decide) q5
        refine mv_istore_n (lv' := [(1, .int v118), (0, .ref o0)]) d_TrustDeskModel_factor_43 rfl (by decide) rfl ?_
        refine mv_iload_n d_TrustDeskModel_factor_44 rfl rfl ?_
        refine mv_iconst (v := (-1)) d_TrustDeskModel_factor_45 (by decide) ?_
        have := mz_hi v118
        refine mv_icmp_neZ (tgt := 54) (a := v118.toInt) (b := (-1)) d_TrustDeskModel_factor_46 (by decide) rfl (by decide) (fun b131 => ?_) (fun b131 => ?_)
        · refine mv_aload_n d_TrustDeskModel_factor_54 rfl rfl ?_
          refine mv_sipush (v := 10000) d_TrustDeskModel_factor_55 (by decide) ?_
          refine mv_iload_n d_TrustDeskModel_factor_58 rfl rfl ?_
          refine mv_iadd d_TrustDeskModel_factor_59 ?_
          obtain ⟨_, b138, -⟩ := I116.1 _ _ t122
          have b139 : (10000 + v118 : Int32).toInt = (10000 + v118.toInt) := mz_add2 (by decide) rfl (by have := R119.1 15 _ _ rfl; have := R119.1 16 _ _ rfl; have := R119.1 19 _ _ rfl; have := E127.f yS; omega) (by have := R119.1 15 _ _ rfl; have := R119.1 16 _ _ rfl; have := R119.1 19 _ _ rfl; have := E127.f yS; omega)
          refine mv_callV (kc' := 0) (ks' := 0) (As := [.int (10000 + v118)]) (st9 := [.int (10000 + v118), .ref o0]) d_TrustDeskModel_factor_60 lV_TrustDeskModel_279 b138 rfl (tc_TrustDeskModel_emits_x (d := (d + 16)) (x9 := x9) (o0 := o0) (x1 := (10000 + v118)) t122 R119 (by have := R119.1 15 _ _ rfl; have := R119.1 16 _ _ rfl; have := R119.1 19 _ _ rfl; have := E127.f yS; omega) (by have := R119.1 15 _ _ rfl; have := R119.1 16 _ _ rfl; have := R119.1 19 _ _ rfl; have := E127.f yS; omega) I116.start) rfl (Nat.le_of_ble_eq_true rfl) (Nat.le_of_ble_eq_true rfl) (Nat.le_of_ble_eq_true rfl) (hst := rfl) (fun b132r M133 n134 b132 => ?_)
          obtain ⟨T135, J136, rfl, R140, f141⟩ := b132
          have I137 := I116.call J136 (tm_sub (by decide)) (Or.inl rfl)
          have t142 := J136.up t122
          have z143 := (rv_c I116 J136 (I116.up h_o0) (k := 16) rfl).trans z123
          have z144 := (rv_c I116 J136 (I116.up h_o0) (k := 17) rfl).trans z124
          have z145 := (rv_c I116 J136 (I116.up h_o0) (k := 19) rfl).trans z125
          have z146 := (rv_c I116 J136 (I116.up h_o0) (k := 22) rfl).trans z126
          have E147 : rE M0 M133 o0 1 (-1) := E127.emit f141 (rE_hv I116 J136 (I116.up h_o0) 15 19 (by decide)) (yR.2 5 _ _ rfl 44).1 (by decide) (Or.inl ⟨by have := R119.1 15 _ _ rfl; have := R119.1 16 _ _ rfl; have := R119.1 19 _ _ rfl; have := E127.f yS; omega, by decide⟩) (by decide)
          have Z9148 : pO M133 o0 pb pn pa ps := Z9128.same (rE_hv I116 J136 (I116.up h_o0) 14 20 (by decide)) (rv_c I116 J136 (I116.up h_o0) (k := 23) rfl) (ra_call I116 J136 (I116.up h_o0) (k := 13) rfl rfl rfl)
          clear z123 z124 z125 z126
          have q149 := J136.keep t122 (by decide) q129
          have q150 := J136.keep t122 (by decide) q130
          refine mv_aload_n d_TrustDeskModel_factor_63 rfl rfl ?_
          obtain ⟨_, b151, -⟩ := I137.1 _ _ t142
          refine mv_callV (kc1 := 0) (ks1 := 0) (kc' := 0) (ks' := 0) (As := []) (st9 := [.ref o0]) d_TrustDeskModel_factor_64 lV_TrustDeskModel_230 b151 rfl (mj_enter (by decide) (Nat.le_of_ble_eq_true rfl) ?_) rfl (Nat.le_of_ble_eq_true rfl) (Nat.le_of_ble_eq_true rfl) (Nat.le_of_ble_eq_true rfl) (hst := rfl) (fun _ _ _ h => h)
          refine mv_aload_n d_TrustDeskModel_isWell_0 rfl rfl ?_
          refine tr_getK (k := 19) q149 d_TrustDeskModel_isWell_1 f_TrustDeskModel_224_13 ?_
          have := mz_hi v3
          refine mv_if_neZ (tgt := 11) (a := v3.toInt) d_TrustDeskModel_isWell_4 (by decide) rfl (fun b152 => absurd b152 (by omega)) (fun b152 => ?_)
          refine mv_iconst (v := 1) d_TrustDeskModel_isWell_7 (by decide) ?_
          refine mv_goto (tgt := 12) d_TrustDeskModel_isWell_8 (by decide) ?_
          refine mv_iret d_TrustDeskModel_isWell_12 rfl (by decide) ?_
          refine mv_if_eq_f (tgt := 74) d_TrustDeskModel_factor_67 (by decide) (by decide) ?_
          refine mv_aload_n d_TrustDeskModel_factor_70 rfl rfl ?_
          obtain ⟨_, b159, -⟩ := I137.1 _ _ t142
          refine mv_callV (kc' := 0) (ks' := 0) (As := []) (st9 := [.ref o0]) d_TrustDeskModel_factor_71 lV_TrustDeskModel_237 b159 rfl (tc_TrustDeskModel_next_x (d := (d + 16)) (x9 := x9) (o0 := o0) t142 R140 Z9148.p I137.start) rfl (Nat.le_of_ble_eq_true rfl) (Nat.le_of_ble_eq_true rfl) (Nat.le_of_ble_eq_true rfl) (hst := rfl) (fun b153r M154 n155 b153 => ?_)
          obtain ⟨T156, J157, rfl, R160, f161, f162, f163⟩ := b153
          have I158 := I137.call J157 (tm_sub (by decide)) (Or.inl rfl)
          have t164 := J157.up t142
          have z165 := (rv_c I137 J157 (I137.up h_o0) (k := 19) rfl).trans z145
          have z166 := (rv_c I137 J157 (I137.up h_o0) (k := 22) rfl).trans z146
          have h168 : rv M133 o0 16 + 1 ≤ rv M133 o0 15 := (by have := R140.1 15 _ _ rfl; have := R140.1 16 _ _ rfl; have := R140.1 19 _ _ rfl; have := E147.f yS; omega)
          have E167 : rE M0 M154 o0 1 0 := E147.next f161 f162 (rv_c I137 J157 (I137.up h_o0) (k := 19) rfl) (rE_ha I137 J157 (I137.up h_o0) (by decide)) (e := 1) h168 (by decide)
          obtain ⟨s169, e170⟩ : ∃ s9 : p_S, p_nx ps = s9 := ⟨_, rfl⟩
          rw [e170] at f163
          have := f163.w
          clear z145 z146
          have q171 := J157.keep t142 (by decide) q149
          refine mv_goto (tgt := 118) d_TrustDeskModel_factor_74 (by decide) ?_
          exact mv_vret d_TrustDeskModel_factor_118 rfl ⟨_, I158, rfl, R160, E167, (by have := R160.1 15 _ _ rfl; have := R160.1 16 _ _ rfl; have := R160.1 19 _ _ rfl; have := E167.f yS; omega), (by first | (have := yO.s3 (by omega) (by omega); rw [show p_fac pb pn pa (p_op pb pn pa 4) ps = s169 from (by have hop : (p_op pb pn pa 4) ps = p_sg pb pn 41 (p_sum pb pn pa (p_op pb pn pa 3) (p_nx ps)) := rfl; unfold p_fac; (try simp only [hop]); (try simp only [e170]); ((repeat' (first | (with_reducible rfl) | split)) <;> (exfalso; omega)))]; exact f163) | (exfalso; have := R160.1 15 _ _ rfl; have := R160.1 16 _ _ rfl; have := R160.1 19 _ _ rfl; have := E167.f yS; omega))⟩
        · refine mv_aload_n d_TrustDeskModel_factor_49 rfl rfl ?_
          refine mv_iconst (v := 3) d_TrustDeskModel_factor_50 (by decide) ?_
          obtain ⟨_, b178, -⟩ := I116.1 _ _ t122
          have : (3 : Int32).toInt = 3 := by decide
          refine mv_callV (kc' := 0) (ks' := 0) (As := [.int 3]) (st9 := [.int 3, .ref o0]) d_TrustDeskModel_factor_51 lV_TrustDeskModel_240 b178 rfl (tc_TrustDeskModel_fails_x (d := (d + 17)) (x9 := x9) (o0 := o0) (x1 := 3) t122 R119 (by decide) Z9128 I116.start) rfl (Nat.le_of_ble_eq_true rfl) (Nat.le_of_ble_eq_true rfl) (Nat.le_of_ble_eq_true rfl) (hst := rfl) (fun b172r M173 n174 b172 => ?_)
          obtain ⟨T175, J176, rfl, R179, f180, f181⟩ := b172
          have I177 := I116.call J176 (tm_sub (by decide)) (Or.inl rfl)
          have t182 := J176.up t122
          have z183 := (rv_c I116 J176 (I116.up h_o0) (k := 16) rfl).trans z123
          have z184 := (rv_c I116 J176 (I116.up h_o0) (k := 17) rfl).trans z124
          have z185 := (rv_c I116 J176 (I116.up h_o0) (k := 22) rfl).trans z126
          have E186 : rE M0 M173 o0 0 0 := E127.fails (rE_hv I116 J176 (I116.up h_o0) 15 18 (by decide)) (rE_ha I116 J176 (I116.up h_o0) (by decide)) f180 0 0
          rw [show (3 : Int32).toInt = 3 from by decide] at f181
          obtain ⟨s187, e188⟩ : ∃ s9 : p_S, p_fl pb pn 3 ps = s9 := ⟨_, rfl⟩
          rw [e188] at f181
          have := f181.w
          clear z123 z124 z126
          have q189 := J176.keep t122 (by decide) q130
          refine mv_aload_n d_TrustDeskModel_factor_54 rfl rfl ?_
          refine mv_sipush (v := 10000) d_TrustDeskModel_factor_55 (by decide) ?_
          refine mv_iload_n d_TrustDeskModel_factor_58 rfl rfl ?_
          refine mv_iadd d_TrustDeskModel_factor_59 ?_
          obtain ⟨_, b196, -⟩ := I177.1 _ _ t182
          have b197 : (10000 + v118 : Int32).toInt = (10000 + v118.toInt) := mz_add2 (by decide) rfl (by have := R179.1 15 _ _ rfl; have := R179.1 16 _ _ rfl; have := R179.1 19 _ _ rfl; have := E186.f yS; omega) (by have := R179.1 15 _ _ rfl; have := R179.1 16 _ _ rfl; have := R179.1 19 _ _ rfl; have := E186.f yS; omega)
          refine mv_callV (kc' := 0) (ks' := 0) (As := [.int (10000 + v118)]) (st9 := [.int (10000 + v118), .ref o0]) d_TrustDeskModel_factor_60 lV_TrustDeskModel_279 b196 rfl (tc_TrustDeskModel_emits_x (d := (d + 16)) (x9 := x9) (o0 := o0) (x1 := (10000 + v118)) t182 R179 (by have := R179.1 15 _ _ rfl; have := R179.1 16 _ _ rfl; have := R179.1 19 _ _ rfl; have := E186.f yS; omega) (by have := R179.1 15 _ _ rfl; have := R179.1 16 _ _ rfl; have := R179.1 19 _ _ rfl; have := E186.f yS; omega) I177.start) rfl (Nat.le_of_ble_eq_true rfl) (Nat.le_of_ble_eq_true rfl) (Nat.le_of_ble_eq_true rfl) (hst := rfl) (fun b190r M191 n192 b190 => ?_)
          obtain ⟨T193, J194, rfl, R198, f199⟩ := b190
          have I195 := I177.call J194 (tm_sub (by decide)) (Or.inl rfl)
          have t200 := J194.up t182
          have z201 := (rv_c I177 J194 (I177.up h_o0) (k := 16) rfl).trans z183
          have z202 := (rv_c I177 J194 (I177.up h_o0) (k := 17) rfl).trans z184
          have z203 := (rv_c I177 J194 (I177.up h_o0) (k := 19) rfl)
          have z204 := (rv_c I177 J194 (I177.up h_o0) (k := 22) rfl).trans z185
          have E205 : rE M0 M191 o0 1 (-1) := E186.emit f199 (rE_hv I177 J194 (I177.up h_o0) 15 19 (by decide)) (yR.2 5 _ _ rfl 44).1 (by decide) (Or.inl ⟨by have := R179.1 15 _ _ rfl; have := R179.1 16 _ _ rfl; have := R179.1 19 _ _ rfl; have := E186.f yS; omega, by decide⟩) (by decide)
          have Z9206 : pO M191 o0 pb pn pa s187 := f181.same (rE_hv I177 J194 (I177.up h_o0) 14 20 (by decide)) (rv_c I177 J194 (I177.up h_o0) (k := 23) rfl) (ra_call I177 J194 (I177.up h_o0) (k := 13) rfl rfl rfl)
          clear z183 z184 z185
          have q207 := J194.keep t182 (by decide) q189
          refine mv_aload_n d_TrustDeskModel_factor_63 rfl rfl ?_
          obtain ⟨_, b208, -⟩ := I195.1 _ _ t200
          refine mv_callV (kc1 := 0) (ks1 := 0) (kc' := 0) (ks' := 0) (As := []) (st9 := [.ref o0]) d_TrustDeskModel_factor_64 lV_TrustDeskModel_230 b208 rfl (mj_enter (by decide) (Nat.le_of_ble_eq_true rfl) ?_) rfl (Nat.le_of_ble_eq_true rfl) (Nat.le_of_ble_eq_true rfl) (Nat.le_of_ble_eq_true rfl) (hst := rfl) (fun _ _ _ h => h)
          refine mv_aload_n d_TrustDeskModel_isWell_0 rfl rfl ?_
          obtain ⟨v210, q209⟩ := tm_atI I195 t200 (k := 19) rfl
          refine tr_getK q209 d_TrustDeskModel_isWell_1 f_TrustDeskModel_224_13 ?_
          have := R198.f (k := 19) q209 rfl
          have := (tm_rv q209).symm.trans z203
          have := tm_rv q209
          have := mz_hi v210
          refine mv_if_neZ (tgt := 11) (a := v210.toInt) d_TrustDeskModel_isWell_4 (by decide) rfl (fun b211 => ?_) (fun b211 => ?_)
          · refine mv_iconst (v := 0) d_TrustDeskModel_isWell_11 (by decide) ?_
            refine mv_iret d_TrustDeskModel_isWell_12 rfl (by decide) ?_
            refine mv_if_eq_t (tgt := 74) d_TrustDeskModel_factor_67 (by decide) (by decide) ?_
            refine mv_goto (tgt := 118) d_TrustDeskModel_factor_74 (by decide) ?_
            exact mv_vret d_TrustDeskModel_factor_118 rfl ⟨_, I195, rfl, R198, E205.vac (by have := R198.1 15 _ _ rfl; have := R198.1 16 _ _ rfl; have := R198.1 19 _ _ rfl; have := E205.f yS; omega) 1 0, (by have := R198.1 15 _ _ rfl; have := R198.1 16 _ _ rfl; have := R198.1 19 _ _ rfl; have := E205.f yS; omega), (by first | (have := yO.s3 (by omega) (by omega); rw [show p_fac pb pn pa (p_op pb pn pa 4) ps = s187 from (by have hop : (p_op pb pn pa 4) ps = p_sg pb pn 41 (p_sum pb pn pa (p_op pb pn pa 3) (p_nx ps)) := rfl; unfold p_fac; (try simp only [hop]); (try simp only [e188]); ((repeat' (first | (with_reducible rfl) | split)) <;> (exfalso; omega)))]; exact Z9206) | (exfalso; have := R198.1 15 _ _ rfl; have := R198.1 16 _ _ rfl; have := R198.1 19 _ _ rfl; have := E205.f yS; omega))⟩
          · refine mv_iconst (v := 1) d_TrustDeskModel_isWell_7 (by decide) ?_
            refine mv_goto (tgt := 12) d_TrustDeskModel_isWell_8 (by decide) ?_
            refine mv_iret d_TrustDeskModel_isWell_12 rfl (by decide) ?_
            refine mv_if_eq_f (tgt := 74) d_TrustDeskModel_factor_67 (by decide) (by decide) ?_
            refine mv_aload_n d_TrustDeskModel_factor_70 rfl rfl ?_
            obtain ⟨_, b218, -⟩ := I195.1 _ _ t200
            refine mv_callV (kc' := 0) (ks' := 0) (As := []) (st9 := [.ref o0]) d_TrustDeskModel_factor_71 lV_TrustDeskModel_237 b218 rfl (tc_TrustDeskModel_next_x (d := (d + 16)) (x9 := x9) (o0 := o0) t200 R198 Z9206.p I195.start) rfl (Nat.le_of_ble_eq_true rfl) (Nat.le_of_ble_eq_true rfl) (Nat.le_of_ble_eq_true rfl) (hst := rfl) (fun b212r M213 n214 b212 => ?_)
            obtain ⟨T215, J216, rfl, R219, f220, f221, f222⟩ := b212
            have I217 := I195.call J216 (tm_sub (by decide)) (Or.inl rfl)
            have t223 := J216.up t200
            have z224 := (rv_c I195 J216 (I195.up h_o0) (k := 19) rfl).trans z203
            have z225 := (rv_c I195 J216 (I195.up h_o0) (k := 22) rfl).trans z204
            have h227 : rv M191 o0 16 + 1 ≤ rv M191 o0 15 := (by have := R198.1 15 _ _ rfl; have := R198.1 16 _ _ rfl; have := R198.1 19 _ _ rfl; have := E205.f yS; omega)
            have E226 : rE M0 M213 o0 1 0 := E205.next f220 f221 (rv_c I195 J216 (I195.up h_o0) (k := 19) rfl) (rE_ha I195 J216 (I195.up h_o0) (by decide)) (e := 1) h227 (by decide)
            obtain ⟨s228, e229⟩ : ∃ s9 : p_S, p_nx s187 = s9 := ⟨_, rfl⟩
            rw [e229] at f222
            have := f222.w
            clear z203 z204
            have q230 := J216.keep t200 (by decide) q209
            refine mv_goto (tgt := 118) d_TrustDeskModel_factor_74 (by decide) ?_
            exact mv_vret d_TrustDeskModel_factor_118 rfl ⟨_, I217, rfl, R219, E226, (by have := R219.1 15 _ _ rfl; have := R219.1 16 _ _ rfl; have := R219.1 19 _ _ rfl; have := E226.f yS; omega), (by first | (have := yO.s3 (by omega) (by omega); rw [show p_fac pb pn pa (p_op pb pn pa 4) ps = s228 from (by have hop : (p_op pb pn pa 4) ps = p_sg pb pn 41 (p_sum pb pn pa (p_op pb pn pa 3) (p_nx ps)) := rfl; unfold p_fac; (try simp only [hop]); (try simp only [e188, e229]); ((repeat' (first | (with_reducible rfl) | split)) <;> (exfalso; omega)))]; exact f222) | (exfalso; have := R219.1 15 _ _ rfl; have := R219.1 16 _ _ rfl; have := R219.1 19 _ _ rfl; have := E226.f yS; omega))⟩
    · refine mv_aload_n d_TrustDeskModel_factor_16 rfl rfl ?_
      refine mv_aload_n d_TrustDeskModel_factor_17 rfl rfl ?_
      obtain ⟨v232, q231⟩ := tm_atI I0 h_o0 (k := 18) rfl
      refine tr_getK q231 d_TrustDeskModel_factor_18 f_TrustDeskModel_201_13 ?_
      have := yR.f (k := 18) q231 rfl
      have := tm_rv q231
      obtain ⟨_, b239, -⟩ := I0.1 _ _ h_o0
      refine mv_callV (kc' := 0) (ks' := 0) (As := [.int v232]) (st9 := [.int v232, .ref o0]) d_TrustDeskModel_factor_21 lV_TrustDeskModel_279 b239 rfl (tc_TrustDeskModel_emits_x (d := (d + 16)) (x9 := x9) (o0 := o0) (x1 := v232) h_o0 yR (by have := yR.1 15 _ _ rfl; have := yR.1 16 _ _ rfl; have := yR.1 19 _ _ rfl; have := yE0.f yS; omega) (by have := yR.1 15 _ _ rfl; have := yR.1 16 _ _ rfl; have := yR.1 19 _ _ rfl; have := yE0.f yS; omega) I0.start) rfl (Nat.le_of_ble_eq_true rfl) (Nat.le_of_ble_eq_true rfl) (Nat.le_of_ble_eq_true rfl) (hst := rfl) (fun b233r M234 n235 b233 => ?_)
      obtain ⟨T236, J237, rfl, R240, f241⟩ := b233
      have I238 := I0.call J237 (tm_sub (by decide)) (Or.inl rfl)
      have t242 := J237.up h_o0
      have z243 := (rv_c I0 J237 (I0.up h_o0) (k := 16) rfl)
      have z244 := (rv_c I0 J237 (I0.up h_o0) (k := 17) rfl)
      have z245 := (rv_c I0 J237 (I0.up h_o0) (k := 19) rfl)
      have z246 := (rv_c I0 J237 (I0.up h_o0) (k := 22) rfl)
      have E247 : rE M0 M234 o0 1 (-1) := yE0.emit f241 (rE_hv I0 J237 (I0.up h_o0) 15 19 (by decide)) (yR.2 5 _ _ rfl 44).1 (by decide) (Or.inl ⟨by have := yR.1 15 _ _ rfl; have := yR.1 16 _ _ rfl; have := yR.1 19 _ _ rfl; have := yE0.f yS; omega, by decide⟩) (by decide)
      have Z9248 : pO M234 o0 pb pn pa ps := yO.same (rE_hv I0 J237 (I0.up h_o0) 14 20 (by decide)) (rv_c I0 J237 (I0.up h_o0) (k := 23) rfl) (ra_call I0 J237 (I0.up h_o0) (k := 13) rfl rfl rfl)
      have q249 := J237.keep h_o0 (by decide) q2
      have q250 := J237.keep h_o0 (by decide) q5
      have q251 := J237.keep h_o0 (by decide) q231
      refine mv_aload_n d_TrustDeskModel_factor_24 rfl rfl ?_
      obtain ⟨_, b258, -⟩ := I238.1 _ _ t242
      refine mv_callV (kc' := 0) (ks' := 0) (As := []) (st9 := [.ref o0]) d_TrustDeskModel_factor_25 lV_TrustDeskModel_237 b258 rfl (tc_TrustDeskModel_next_x (d := (d + 16)) (x9 := x9) (o0 := o0) t242 R240 Z9248.p I238.start) rfl (Nat.le_of_ble_eq_true rfl) (Nat.le_of_ble_eq_true rfl) (Nat.le_of_ble_eq_true rfl) (hst := rfl) (fun b252r M253 n254 b252 => ?_)
      obtain ⟨T255, J256, rfl, R259, f260, f261, f262⟩ := b252
      have I257 := I238.call J256 (tm_sub (by decide)) (Or.inl rfl)
      have t263 := J256.up t242
      have z264 := (rv_c I238 J256 (I238.up h_o0) (k := 19) rfl).trans z245
      have z265 := (rv_c I238 J256 (I238.up h_o0) (k := 22) rfl).trans z246
      have h267 : rv M234 o0 16 + 1 ≤ rv M234 o0 15 := (by have := R240.1 15 _ _ rfl; have := R240.1 16 _ _ rfl; have := R240.1 19 _ _ rfl; have := E247.f yS; omega)
      have E266 : rE M0 M253 o0 1 0 := E247.next f260 f261 (rv_c I238 J256 (I238.up h_o0) (k := 19) rfl) (rE_ha I238 J256 (I238.up h_o0) (by decide)) (e := 1) h267 (by decide)
      obtain ⟨s268, e269⟩ : ∃ s9 : p_S, p_nx ps = s9 := ⟨_, rfl⟩
      rw [e269] at f262
      have := f262.w
      clear z245 z246
      have q270 := J256.keep t242 (by decide) q249
      refine mv_goto (tgt := 118) d_TrustDeskModel_factor_28 (by decide) ?_
      exact mv_vret d_TrustDeskModel_factor_118 rfl ⟨_, I257, rfl, R259, E266, (by have := R259.1 15 _ _ rfl; have := R259.1 16 _ _ rfl; have := R259.1 19 _ _ rfl; have := E266.f yS; omega), (by first | (have := yO.s2 (by omega) (by omega); rw [show p_fac pb pn pa (p_op pb pn pa 4) ps = s268 from (by have hop : (p_op pb pn pa 4) ps = p_sg pb pn 41 (p_sum pb pn pa (p_op pb pn pa 3) (p_nx ps)) := rfl; unfold p_fac; (try simp only [hop]); (try simp only [e269]); ((repeat' (first | (with_reducible rfl) | split)) <;> (exfalso; omega)))]; exact f262) | (exfalso; have := R259.1 15 _ _ rfl; have := R259.1 16 _ _ rfl; have := R259.1 19 _ _ rfl; have := E266.f yS; omega))⟩
def w_TrustDeskModel_product_q5_x : List Nat := [1315, 1316, 1317, 1318, 1319, 1320, 1322, 20004, 20005]
set_option maxHeartbeats 100000000 in theorem tc_TrustDeskModel_product_q5_x {g : mj_G} {l : Launch} {d : Nat} {T0 : tm_H} {M0 : mj_M} {n0 x9 : Nat} {o0 : Nat} (h_o0 : T0 o0 = some (0, 13, 0)) (yR : rI M0 o0) (yT : rT M0 o0) (yS : rv M0 o0 19 = 0 → ra M0 o0 5 44 ≤ rv M0 o0 16) (yL : rv M0 o0 19 ≠ 0 ∨ (0 ≤ rv M0 o0 22 ∧ rv M0 o0 22 ≤ 0)) {pb : Nat → Int} {pn : Nat} {pa : Int} {ps : p_S} (yO : pO M0 o0 pb pn pa ps) (I0 : tm_I tm_FT (tm_in w_TrustDeskModel_product_q5_x) x9 T0 M0 n0 T0 M0 n0) : mj_Met g l kY_TrustDeskModel_product (d + 19) [.ref o0] M0 n0 0 0 (tm_Q tm_FT (tm_in w_TrustDeskModel_product_q5_x) x9 T0 M0 n0 (fun r _ M => r = none ∧ rI M o0 ∧ (rE M0 M o0 1 0) ∧ (rv M o0 19 = 0 → rv M o0 22 = rv M0 o0 22) ∧ (pO M o0 pb pn pa (p_pro pb pn pa (p_op pb pn pa 4) ps)))) := by
  refine mj_enter (by decide) (Nat.le_of_ble_eq_true rfl) ?_
  have yE0 := rE.rf yT
  have := yO.w
  refine mv_aload_n d_TrustDeskModel_product_0 rfl rfl ?_
  obtain ⟨_, b7, -⟩ := I0.1 _ _ h_o0
  refine mv_callV (kc' := 0) (ks' := 0) (As := []) (st9 := [.ref o0]) d_TrustDeskModel_product_1 lV_TrustDeskModel_294 b7 rfl (tc_TrustDeskModel_factor_q5_x (d := d) (x9 := x9) (o0 := o0) h_o0 yR yE0.1 (by have := yR.1 15 _ _ rfl; have := yR.1 16 _ _ rfl; have := yR.1 19 _ _ rfl; have := yE0.f yS; omega) (by have := yR.1 15 _ _ rfl; have := yR.1 16 _ _ rfl; have := yR.1 19 _ _ rfl; have := yE0.f yS; omega) yO I0.start) rfl (Nat.le_of_ble_eq_true rfl) (Nat.le_of_ble_eq_true rfl) (Nat.le_of_ble_eq_true rfl) (hst := rfl) (fun b1r M2 n3 b1 => ?_)
  obtain ⟨T4, J5, rfl, R8, f9, f10, f11⟩ := b1
  have I6 := I0.call J5 (tm_sub (by decide)) (Or.inl rfl)
  have t12 := J5.up h_o0
  have E13 : rE M0 M2 o0 1 0 := yE0.trans f9 (by decide) (yR.2 5 _ _ rfl 44).1 (by decide) (by decide)
  have := f9.w
  obtain ⟨s14, e15⟩ : ∃ s9 : p_S, p_fac pb pn pa (p_op pb pn pa 4) ps = s9 := ⟨_, rfl⟩
  rw [e15] at f11
  have := f11.w
  have L4_16 : ∀ (k : Nat) (T_16 : tm_H) (M_16 : mj_M) (n_16 : Nat), tm_I tm_FT (tm_in w_TrustDeskModel_product_q5_x) x9 T0 M0 n0 T_16 M_16 n_16 → T_16 o0 = some (0, 13, 0) → (rv M_16 o0 19 = 0 → rv M_16 o0 22 = rv M0 o0 22) → (rI M_16 o0) → (rE M0 M_16 o0 1 0) → (∃ s1 : p_S, pO M_16 o0 pb pn pa s1 ∧ p_lp pn (p_pr1 pb pn pa (p_op pb pn pa 4)) s1 = p_pro pb pn pa (p_op pb pn pa 4) ps) → 5 * (401 - rv M_16 o0 16) - rv M_16 o0 19 < (k : Int) → mj_V g l kY_TrustDeskModel_product (d + 19) 4 [(0, .ref o0)] [] M_16 n_16 0 0 (tm_Q tm_FT (tm_in w_TrustDeskModel_product_q5_x) x9 T0 M0 n0 (fun r _ M => r = none ∧ rI M o0 ∧ (rE M0 M o0 1 0) ∧ (rv M o0 19 = 0 → rv M o0 22 = rv M0 o0 22) ∧ (pO M o0 pb pn pa (p_pro pb pn pa (p_op pb pn pa 4) ps)))) := by
    intro k16
    induction k16 with
    | zero =>
      intro T_16 M_16 n_16 I_16 h_q0_16 iv0_16 kKR_16 kKE_16 kKT9_16 hk16
      have := kKR_16.1 15 _ _ rfl
      have := kKR_16.1 16 _ _ rfl
      have := kKR_16.1 19 _ _ rfl
      exfalso; omega
    | succ k16 ih16 =>
      intro T_16 M_16 n_16 I_16 h_q0_16 iv0_16 kKR_16 kKE_16 kKT9_16 hk16
      have := kKE_16.f yS
      obtain ⟨s17, Z918, e19⟩ := kKT9_16
      have := Z918.w
      refine mv_aload_n d_TrustDeskModel_product_4 rfl rfl ?_
      obtain ⟨_, b20, -⟩ := I_16.1 _ _ h_q0_16
      refine mv_callV (kc1 := 0) (ks1 := 0) (kc' := 0) (ks' := 0) (As := []) (st9 := [.ref o0]) d_TrustDeskModel_product_5 lV_TrustDeskModel_230 b20 rfl (mj_enter (by decide) (Nat.le_of_ble_eq_true rfl) ?_) rfl (Nat.le_of_ble_eq_true rfl) (Nat.le_of_ble_eq_true rfl) (Nat.le_of_ble_eq_true rfl) (hst := rfl) (fun _ _ _ h => h)
      refine mv_aload_n d_TrustDeskModel_isWell_0 rfl rfl ?_
      obtain ⟨v22, q21⟩ := tm_atI I_16 h_q0_16 (k := 19) rfl
      refine tr_getK q21 d_TrustDeskModel_isWell_1 f_TrustDeskModel_224_13 ?_
      have := kKR_16.f (k := 19) q21 rfl
      have := tm_rv q21
      have := mz_hi v22
      refine mv_if_neZ (tgt := 11) (a := v22.toInt) d_TrustDeskModel_isWell_4 (by decide) rfl (fun b23 => ?_) (fun b23 => ?_)
      · refine mv_iconst (v := 0) d_TrustDeskModel_isWell_11 (by decide) ?_
        refine mv_iret d_TrustDeskModel_isWell_12 rfl (by decide) ?_
        refine mv_if_eq_t (tgt := 37) d_TrustDeskModel_product_8 (by decide) (by decide) ?_
        exact mv_vret d_TrustDeskModel_product_37 rfl ⟨_, I_16, rfl, kKR_16, kKE_16, (by have := kKR_16.1 15 _ _ rfl; have := kKR_16.1 16 _ _ rfl; have := kKR_16.1 19 _ _ rfl; have := kKE_16.f yS; omega), (by first | (have hX := e19.symm.trans (p_lp_stop (show (p_pr1 pb pn pa (p_op pb pn pa 4)) s17 = s17 from if_neg (fun h9 => by omega))); rw [show p_pro pb pn pa (p_op pb pn pa 4) ps = s17 from (by exact hX)]; exact Z918) | (exfalso; have := kKR_16.1 15 _ _ rfl; have := kKR_16.1 16 _ _ rfl; have := kKR_16.1 19 _ _ rfl; have := kKE_16.f yS; omega))⟩
      · refine mv_iconst (v := 1) d_TrustDeskModel_isWell_7 (by decide) ?_
        refine mv_goto (tgt := 12) d_TrustDeskModel_isWell_8 (by decide) ?_
        refine mv_iret d_TrustDeskModel_isWell_12 rfl (by decide) ?_
        refine mv_if_eq_f (tgt := 37) d_TrustDeskModel_product_8 (by decide) (by decide) ?_
        refine mv_aload_n d_TrustDeskModel_product_11 rfl rfl ?_
        refine mv_bipush (v := 42) d_TrustDeskModel_product_12 (by decide) ?_
        obtain ⟨_, b24, -⟩ := I_16.1 _ _ h_q0_16
        refine mv_callV (kc1 := 0) (ks1 := 0) (kc' := 0) (ks' := 0) (As := [.int 42]) (st9 := [.int 42, .ref o0]) d_TrustDeskModel_product_14 lV_TrustDeskModel_234 b24 rfl (mj_enter (by decide) (Nat.le_of_ble_eq_true rfl) ?_) rfl (Nat.le_of_ble_eq_true rfl) (Nat.le_of_ble_eq_true rfl) (Nat.le_of_ble_eq_true rfl) (hst := rfl) (fun _ _ _ h => h)
        refine mv_aload_n d_TrustDeskModel_isSign_0 rfl rfl ?_
        obtain ⟨v26, q25⟩ := tm_atI I_16 h_q0_16 (k := 17) rfl
        refine tr_getK q25 d_TrustDeskModel_isSign_1 f_TrustDeskModel_198_13 ?_
        have := tm_rv q25
        refine mv_iconst (v := 4) d_TrustDeskModel_isSign_4 (by decide) ?_
        have := mz_hi v26
        refine mv_icmp_neZ (tgt := 20) (a := v26.toInt) (b := 4) d_TrustDeskModel_isSign_5 (by decide) rfl (by decide) (fun b27 => ?_) (fun b27 => ?_)
        · refine mv_iconst (v := 0) d_TrustDeskModel_isSign_20 (by decide) ?_
          refine mv_iret d_TrustDeskModel_isSign_21 rfl (by decide) ?_
          refine mv_if_eq_t (tgt := 37) d_TrustDeskModel_product_17 (by decide) (by decide) ?_
          exact mv_vret d_TrustDeskModel_product_37 rfl ⟨_, I_16, rfl, kKR_16, kKE_16, (by have := kKR_16.1 15 _ _ rfl; have := kKR_16.1 16 _ _ rfl; have := kKR_16.1 19 _ _ rfl; have := kKE_16.f yS; omega), (by first | (have := Z918.n4 (by omega) (by omega); have hX := e19.symm.trans (p_lp_stop (show (p_pr1 pb pn pa (p_op pb pn pa 4)) s17 = s17 from if_neg (fun h9 => by omega))); rw [show p_pro pb pn pa (p_op pb pn pa 4) ps = s17 from (by exact hX)]; exact Z918) | (exfalso; have := kKR_16.1 15 _ _ rfl; have := kKR_16.1 16 _ _ rfl; have := kKR_16.1 19 _ _ rfl; have := kKE_16.f yS; omega))⟩
        · refine mv_aload_n d_TrustDeskModel_isSign_8 rfl rfl ?_
          obtain ⟨v29, q28⟩ := tm_atI I_16 h_q0_16 (k := 18) rfl
          refine tr_getK q28 d_TrustDeskModel_isSign_9 f_TrustDeskModel_201_13 ?_
          have := kKR_16.f (k := 18) q28 rfl
          have := tm_rv q28
          refine mv_iload_n d_TrustDeskModel_isSign_12 rfl rfl ?_
          have := mz_hi v29
          refine mv_icmp_neZ (tgt := 20) (a := v29.toInt) (b := 42) d_TrustDeskModel_isSign_13 (by decide) rfl (by decide) (fun b30 => ?_) (fun b30 => ?_)
          · refine mv_iconst (v := 0) d_TrustDeskModel_isSign_20 (by decide) ?_
            refine mv_iret d_TrustDeskModel_isSign_21 rfl (by decide) ?_
            refine mv_if_eq_t (tgt := 37) d_TrustDeskModel_product_17 (by decide) (by decide) ?_
            exact mv_vret d_TrustDeskModel_product_37 rfl ⟨_, I_16, rfl, kKR_16, kKE_16, (by have := kKR_16.1 15 _ _ rfl; have := kKR_16.1 16 _ _ rfl; have := kKR_16.1 19 _ _ rfl; have := kKE_16.f yS; omega), (by first | (have := Z918.s4 (by omega) (by omega); have hX := e19.symm.trans (p_lp_stop (show (p_pr1 pb pn pa (p_op pb pn pa 4)) s17 = s17 from if_neg (fun h9 => by omega))); rw [show p_pro pb pn pa (p_op pb pn pa 4) ps = s17 from (by exact hX)]; exact Z918) | (exfalso; have := kKR_16.1 15 _ _ rfl; have := kKR_16.1 16 _ _ rfl; have := kKR_16.1 19 _ _ rfl; have := kKE_16.f yS; omega))⟩
          · refine mv_iconst (v := 1) d_TrustDeskModel_isSign_16 (by decide) ?_
            refine mv_goto (tgt := 21) d_TrustDeskModel_isSign_17 (by decide) ?_
            refine mv_iret d_TrustDeskModel_isSign_21 rfl (by decide) ?_
            refine mv_if_eq_f (tgt := 37) d_TrustDeskModel_product_17 (by decide) (by decide) ?_
            refine mv_aload_n d_TrustDeskModel_product_20 rfl rfl ?_
            obtain ⟨_, b37, -⟩ := I_16.1 _ _ h_q0_16
            refine mv_callV (kc' := 0) (ks' := 0) (As := []) (st9 := [.ref o0]) d_TrustDeskModel_product_21 lV_TrustDeskModel_237 b37 rfl (tc_TrustDeskModel_next_x (d := (d + 17)) (x9 := x9) (o0 := o0) h_q0_16 kKR_16 Z918.p I_16.start) rfl (Nat.le_of_ble_eq_true rfl) (Nat.le_of_ble_eq_true rfl) (Nat.le_of_ble_eq_true rfl) (hst := rfl) (fun b31r M32 n33 b31 => ?_)
            obtain ⟨T34, J35, rfl, R38, f39, f40, f41⟩ := b31
            have I36 := I_16.call J35 (tm_sub (by decide)) (Or.inl rfl)
            have t42 := J35.up h_q0_16
            have z43 := (rv_c I_16 J35 (I_16.up h_o0) (k := 19) rfl)
            have z44 := (rv_c I_16 J35 (I_16.up h_o0) (k := 22) rfl)
            have h46 : rv M_16 o0 16 + 1 ≤ rv M_16 o0 15 := (by have := kKR_16.1 15 _ _ rfl; have := kKR_16.1 16 _ _ rfl; have := kKR_16.1 19 _ _ rfl; have := kKE_16.f yS; omega)
            have E45 : rE M0 M32 o0 1 1 := kKE_16.next f39 f40 (rv_c I_16 J35 (I_16.up h_o0) (k := 19) rfl) (rE_ha I_16 J35 (I_16.up h_o0) (by decide)) (e := 1) h46 (by decide)
            obtain ⟨s47, e48⟩ : ∃ s9 : p_S, p_nx s17 = s9 := ⟨_, rfl⟩
            rw [e48] at f41
            have := f41.w
            have q49 := J35.keep h_q0_16 (by decide) q21
            refine mv_aload_n d_TrustDeskModel_product_24 rfl rfl ?_
            obtain ⟨_, b56, -⟩ := I36.1 _ _ t42
            refine mv_callV (kc' := 0) (ks' := 0) (As := []) (st9 := [.ref o0]) d_TrustDeskModel_product_25 lV_TrustDeskModel_294 b56 rfl (tc_TrustDeskModel_factor_q5_x (d := d) (x9 := x9) (o0 := o0) t42 R38 E45.1 (by have := R38.1 15 _ _ rfl; have := R38.1 16 _ _ rfl; have := R38.1 19 _ _ rfl; have := E45.f yS; omega) (by have := R38.1 15 _ _ rfl; have := R38.1 16 _ _ rfl; have := R38.1 19 _ _ rfl; have := E45.f yS; omega) f41 I36.start) rfl (Nat.le_of_ble_eq_true rfl) (Nat.le_of_ble_eq_true rfl) (Nat.le_of_ble_eq_true rfl) (hst := rfl) (fun b50r M51 n52 b50 => ?_)
            obtain ⟨T53, J54, rfl, R57, f58, f59, f60⟩ := b50
            have I55 := I36.call J54 (tm_sub (by decide)) (Or.inl rfl)
            have t61 := J54.up t42
            have E62 : rE M0 M51 o0 2 1 := E45.trans f58 (by decide) (yR.2 5 _ _ rfl 44).1 (by decide) (by decide)
            have := f58.w
            obtain ⟨s63, e64⟩ : ∃ s9 : p_S, p_fac pb pn pa (p_op pb pn pa 4) s47 = s9 := ⟨_, rfl⟩
            rw [e64] at f60
            have := f60.w
            refine mv_aload_n d_TrustDeskModel_product_28 rfl rfl ?_
            refine mv_bipush (v := (-3)) d_TrustDeskModel_product_29 (by decide) ?_
            obtain ⟨_, b71, -⟩ := I55.1 _ _ t61
            have : ((-3) : Int32).toInt = (-3) := by decide
            refine mv_callV (kc' := 0) (ks' := 0) (As := [.int (-3)]) (st9 := [.int (-3), .ref o0]) d_TrustDeskModel_product_31 lV_TrustDeskModel_279 b71 rfl (tc_TrustDeskModel_emits_x (d := (d + 17)) (x9 := x9) (o0 := o0) (x1 := (-3)) t61 R57 (by have := R57.1 15 _ _ rfl; have := R57.1 16 _ _ rfl; have := R57.1 19 _ _ rfl; have := E62.f yS; omega) (by decide) I55.start) rfl (Nat.le_of_ble_eq_true rfl) (Nat.le_of_ble_eq_true rfl) (Nat.le_of_ble_eq_true rfl) (hst := rfl) (fun b65r M66 n67 b65 => ?_)
            obtain ⟨T68, J69, rfl, R72, f73⟩ := b65
            have I70 := I55.call J69 (tm_sub (by decide)) (Or.inl rfl)
            have t74 := J69.up t61
            have z75 := (rv_c I55 J69 (I55.up h_o0) (k := 16) rfl)
            have z76 := (rv_c I55 J69 (I55.up h_o0) (k := 17) rfl)
            have z77 := (rv_c I55 J69 (I55.up h_o0) (k := 19) rfl)
            have z78 := (rv_c I55 J69 (I55.up h_o0) (k := 22) rfl)
            have E79 : rE M0 M66 o0 1 0 := E62.emit f73 (rE_hv I55 J69 (I55.up h_o0) 15 19 (by decide)) (yR.2 5 _ _ rfl 44).1 (by decide) (Or.inr (Or.inr ⟨by decide, by decide, by decide, by decide⟩)) (by decide)
            have Z980 : pO M66 o0 pb pn pa s63 := f60.same (rE_hv I55 J69 (I55.up h_o0) 14 20 (by decide)) (rv_c I55 J69 (I55.up h_o0) (k := 23) rfl) (ra_call I55 J69 (I55.up h_o0) (k := 13) rfl rfl rfl)
            refine mv_goto (tgt := 4) d_TrustDeskModel_product_34 (by decide) ?_
            have T81 : ∃ s1 : p_S, pO M66 o0 pb pn pa s1 ∧ p_lp pn (p_pr1 pb pn pa (p_op pb pn pa 4)) s1 = p_pro pb pn pa (p_op pb pn pa 4) ps := ⟨s63, Z980, (by have st : (p_pr1 pb pn pa (p_op pb pn pa 4)) s17 = s63 := (by have := Z918.s4 (by omega) (by omega); rw [show (p_pr1 pb pn pa (p_op pb pn pa 4)) s17 = p_fac pb pn pa (p_op pb pn pa 4) (p_nx s17) from if_pos ⟨by omega, by omega⟩]; simp only [e48, e64]); rw [← st, p_P.go (p_pr1_P (p_op_M _)) s17]; exact e19)⟩
            exact (ih16 T68 M66 n67 I70 t74 (by have := R72.1 15 _ _ rfl; have := R72.1 16 _ _ rfl; have := R72.1 19 _ _ rfl; have := E79.f yS; first | omega | decide | exact fun h9 => absurd (by decide) h9) R72 E79 T81 (by have := R72.1 15 _ _ rfl; have := R72.1 16 _ _ rfl; have := R72.1 19 _ _ rfl; have := E79.f yS; omega))
  have T82 : ∃ s1 : p_S, pO M2 o0 pb pn pa s1 ∧ p_lp pn (p_pr1 pb pn pa (p_op pb pn pa 4)) s1 = p_pro pb pn pa (p_op pb pn pa 4) ps := ⟨s14, f11, (by rw [← e15]; rfl)⟩
  exact mv_less (Nat.zero_le _) (Nat.zero_le _) (L4_16 4294967296 T4 M2 n3 I6 t12 (by have := R8.1 15 _ _ rfl; have := R8.1 16 _ _ rfl; have := R8.1 19 _ _ rfl; have := E13.f yS; first | omega | decide | exact fun h9 => absurd (by decide) h9) R8 E13 T82 (by have := R8.1 15 _ _ rfl; have := R8.1 16 _ _ rfl; have := R8.1 19 _ _ rfl; have := E13.f yS; omega))
def w_TrustDeskModel_sum_q5_x : List Nat := [1315, 1316, 1317, 1318, 1319, 1320, 1322, 20004, 20005]
set_option maxHeartbeats 100000000 in theorem tc_TrustDeskModel_sum_q5_x {g : mj_G} {l : Launch} {d : Nat} {T0 : tm_H} {M0 : mj_M} {n0 x9 : Nat} {o0 : Nat} (h_o0 : T0 o0 = some (0, 13, 0)) (yR : rI M0 o0) (yT : rT M0 o0) (yS : rv M0 o0 19 = 0 → ra M0 o0 5 44 ≤ rv M0 o0 16) (yL : rv M0 o0 19 ≠ 0 ∨ (0 ≤ rv M0 o0 22 ∧ rv M0 o0 22 ≤ 0)) {pb : Nat → Int} {pn : Nat} {pa : Int} {ps : p_S} (yO : pO M0 o0 pb pn pa ps) (I0 : tm_I tm_FT (tm_in w_TrustDeskModel_sum_q5_x) x9 T0 M0 n0 T0 M0 n0) : mj_Met g l kY_TrustDeskModel_sum (d + 20) [.ref o0] M0 n0 0 0 (tm_Q tm_FT (tm_in w_TrustDeskModel_sum_q5_x) x9 T0 M0 n0 (fun r _ M => r = none ∧ rI M o0 ∧ (rE M0 M o0 1 0) ∧ (rv M o0 19 = 0 → rv M o0 22 = rv M0 o0 22) ∧ (pO M o0 pb pn pa (p_sum pb pn pa (p_op pb pn pa 4) ps)))) := by
  refine mj_enter (by decide) (Nat.le_of_ble_eq_true rfl) ?_
  have yE0 := rE.rf yT
  have := yO.w
  refine mv_aload_n d_TrustDeskModel_sum_0 rfl rfl ?_
  obtain ⟨_, b7, -⟩ := I0.1 _ _ h_o0
  refine mv_callV (kc' := 0) (ks' := 0) (As := []) (st9 := [.ref o0]) d_TrustDeskModel_sum_1 lV_TrustDeskModel_297 b7 rfl (tc_TrustDeskModel_product_q5_x (d := d) (x9 := x9) (o0 := o0) h_o0 yR yE0.1 (by have := yR.1 15 _ _ rfl; have := yR.1 16 _ _ rfl; have := yR.1 19 _ _ rfl; have := yE0.f yS; omega) (by have := yR.1 15 _ _ rfl; have := yR.1 16 _ _ rfl; have := yR.1 19 _ _ rfl; have := yE0.f yS; omega) yO I0.start) rfl (Nat.le_of_ble_eq_true rfl) (Nat.le_of_ble_eq_true rfl) (Nat.le_of_ble_eq_true rfl) (hst := rfl) (fun b1r M2 n3 b1 => ?_)
  obtain ⟨T4, J5, rfl, R8, f9, f10, f11⟩ := b1
  have I6 := I0.call J5 (tm_sub (by decide)) (Or.inl rfl)
  have t12 := J5.up h_o0
  have E13 : rE M0 M2 o0 1 0 := yE0.trans f9 (by decide) (yR.2 5 _ _ rfl 44).1 (by decide) (by decide)
  have := f9.w
  obtain ⟨s14, e15⟩ : ∃ s9 : p_S, p_pro pb pn pa (p_op pb pn pa 4) ps = s9 := ⟨_, rfl⟩
  rw [e15] at f11
  have := f11.w
  have L4_16 : ∀ (k : Nat) (T_16 : tm_H) (M_16 : mj_M) (n_16 : Nat), tm_I tm_FT (tm_in w_TrustDeskModel_sum_q5_x) x9 T0 M0 n0 T_16 M_16 n_16 → T_16 o0 = some (0, 13, 0) → (rv M_16 o0 19 = 0 → rv M_16 o0 22 = rv M0 o0 22) → (rI M_16 o0) → (rE M0 M_16 o0 1 0) → (∃ s1 : p_S, pO M_16 o0 pb pn pa s1 ∧ p_lp pn (p_su1 pb pn pa (p_op pb pn pa 4)) s1 = p_sum pb pn pa (p_op pb pn pa 4) ps) → 5 * (401 - rv M_16 o0 16) - rv M_16 o0 19 < (k : Int) → mj_V g l kY_TrustDeskModel_sum (d + 20) 4 [(0, .ref o0)] [] M_16 n_16 0 0 (tm_Q tm_FT (tm_in w_TrustDeskModel_sum_q5_x) x9 T0 M0 n0 (fun r _ M => r = none ∧ rI M o0 ∧ (rE M0 M o0 1 0) ∧ (rv M o0 19 = 0 → rv M o0 22 = rv M0 o0 22) ∧ (pO M o0 pb pn pa (p_sum pb pn pa (p_op pb pn pa 4) ps)))) := by
    intro k16
    induction k16 with
    | zero =>
      intro T_16 M_16 n_16 I_16 h_q0_16 iv0_16 kKR_16 kKE_16 kKT9_16 hk16
      have := kKR_16.1 15 _ _ rfl
      have := kKR_16.1 16 _ _ rfl
      have := kKR_16.1 19 _ _ rfl
      exfalso; omega
    | succ k16 ih16 =>
      intro T_16 M_16 n_16 I_16 h_q0_16 iv0_16 kKR_16 kKE_16 kKT9_16 hk16
      have := kKE_16.f yS
      obtain ⟨s17, Z918, e19⟩ := kKT9_16
      have := Z918.w
      refine mv_aload_n d_TrustDeskModel_sum_4 rfl rfl ?_
      obtain ⟨_, b20, -⟩ := I_16.1 _ _ h_q0_16
      refine mv_callV (kc1 := 0) (ks1 := 0) (kc' := 0) (ks' := 0) (As := []) (st9 := [.ref o0]) d_TrustDeskModel_sum_5 lV_TrustDeskModel_230 b20 rfl (mj_enter (by decide) (Nat.le_of_ble_eq_true rfl) ?_) rfl (Nat.le_of_ble_eq_true rfl) (Nat.le_of_ble_eq_true rfl) (Nat.le_of_ble_eq_true rfl) (hst := rfl) (fun _ _ _ h => h)
      refine mv_aload_n d_TrustDeskModel_isWell_0 rfl rfl ?_
      obtain ⟨v22, q21⟩ := tm_atI I_16 h_q0_16 (k := 19) rfl
      refine tr_getK q21 d_TrustDeskModel_isWell_1 f_TrustDeskModel_224_13 ?_
      have := kKR_16.f (k := 19) q21 rfl
      have := tm_rv q21
      have := mz_hi v22
      refine mv_if_neZ (tgt := 11) (a := v22.toInt) d_TrustDeskModel_isWell_4 (by decide) rfl (fun b23 => ?_) (fun b23 => ?_)
      · refine mv_iconst (v := 0) d_TrustDeskModel_isWell_11 (by decide) ?_
        refine mv_iret d_TrustDeskModel_isWell_12 rfl (by decide) ?_
        refine mv_if_eq_t (tgt := 61) d_TrustDeskModel_sum_8 (by decide) (by decide) ?_
        exact mv_vret d_TrustDeskModel_sum_61 rfl ⟨_, I_16, rfl, kKR_16, kKE_16, (by have := kKR_16.1 15 _ _ rfl; have := kKR_16.1 16 _ _ rfl; have := kKR_16.1 19 _ _ rfl; have := kKE_16.f yS; omega), (by first | (have hX := e19.symm.trans (p_lp_stop (show (p_su1 pb pn pa (p_op pb pn pa 4)) s17 = s17 from if_neg (fun h9 => by omega))); rw [show p_sum pb pn pa (p_op pb pn pa 4) ps = s17 from (by exact hX)]; exact Z918) | (exfalso; have := kKR_16.1 15 _ _ rfl; have := kKR_16.1 16 _ _ rfl; have := kKR_16.1 19 _ _ rfl; have := kKE_16.f yS; omega))⟩
      · refine mv_iconst (v := 1) d_TrustDeskModel_isWell_7 (by decide) ?_
        refine mv_goto (tgt := 12) d_TrustDeskModel_isWell_8 (by decide) ?_
        refine mv_iret d_TrustDeskModel_isWell_12 rfl (by decide) ?_
        refine mv_if_eq_f (tgt := 61) d_TrustDeskModel_sum_8 (by decide) (by decide) ?_
        refine mv_aload_n d_TrustDeskModel_sum_11 rfl rfl ?_
        refine mv_bipush (v := 43) d_TrustDeskModel_sum_12 (by decide) ?_
        obtain ⟨_, b24, -⟩ := I_16.1 _ _ h_q0_16
        refine mv_callV (kc1 := 0) (ks1 := 0) (kc' := 0) (ks' := 0) (As := [.int 43]) (st9 := [.int 43, .ref o0]) d_TrustDeskModel_sum_14 lV_TrustDeskModel_234 b24 rfl (mj_enter (by decide) (Nat.le_of_ble_eq_true rfl) ?_) rfl (Nat.le_of_ble_eq_true rfl) (Nat.le_of_ble_eq_true rfl) (Nat.le_of_ble_eq_true rfl) (hst := rfl) (fun _ _ _ h => h)
        refine mv_aload_n d_TrustDeskModel_isSign_0 rfl rfl ?_
        obtain ⟨v26, q25⟩ := tm_atI I_16 h_q0_16 (k := 17) rfl
        refine tr_getK q25 d_TrustDeskModel_isSign_1 f_TrustDeskModel_198_13 ?_
        have := tm_rv q25
        refine mv_iconst (v := 4) d_TrustDeskModel_isSign_4 (by decide) ?_
        have := mz_hi v26
        refine mv_icmp_neZ (tgt := 20) (a := v26.toInt) (b := 4) d_TrustDeskModel_isSign_5 (by decide) rfl (by decide) (fun b27 => ?_) (fun b27 => ?_)
        · refine mv_iconst (v := 0) d_TrustDeskModel_isSign_20 (by decide) ?_
          refine mv_iret d_TrustDeskModel_isSign_21 rfl (by decide) ?_
          refine mv_if_ne_f (tgt := 29) d_TrustDeskModel_sum_17 (by decide) (by decide) ?_
          refine mv_aload_n d_TrustDeskModel_sum_20 rfl rfl ?_
          refine mv_bipush (v := 45) d_TrustDeskModel_sum_21 (by decide) ?_
          obtain ⟨_, b28, -⟩ := I_16.1 _ _ h_q0_16
          refine mv_callV (kc1 := 0) (ks1 := 0) (kc' := 0) (ks' := 0) (As := [.int 45]) (st9 := [.int 45, .ref o0]) d_TrustDeskModel_sum_23 lV_TrustDeskModel_234 b28 rfl (mj_enter (by decide) (Nat.le_of_ble_eq_true rfl) ?_) rfl (Nat.le_of_ble_eq_true rfl) (Nat.le_of_ble_eq_true rfl) (Nat.le_of_ble_eq_true rfl) (hst := rfl) (fun _ _ _ h => h)
          refine mv_aload_n d_TrustDeskModel_isSign_0 rfl rfl ?_
          refine tr_getK (k := 17) q25 d_TrustDeskModel_isSign_1 f_TrustDeskModel_198_13 ?_
          refine mv_iconst (v := 4) d_TrustDeskModel_isSign_4 (by decide) ?_
          have := mz_hi v26
          refine mv_icmp_neZ (tgt := 20) (a := v26.toInt) (b := 4) d_TrustDeskModel_isSign_5 (by decide) rfl (by decide) (fun b29 => ?_) (fun b29 => absurd b29 (by omega))
          refine mv_iconst (v := 0) d_TrustDeskModel_isSign_20 (by decide) ?_
          refine mv_iret d_TrustDeskModel_isSign_21 rfl (by decide) ?_
          refine mv_if_eq_t (tgt := 61) d_TrustDeskModel_sum_26 (by decide) (by decide) ?_
          exact mv_vret d_TrustDeskModel_sum_61 rfl ⟨_, I_16, rfl, kKR_16, kKE_16, (by have := kKR_16.1 15 _ _ rfl; have := kKR_16.1 16 _ _ rfl; have := kKR_16.1 19 _ _ rfl; have := kKE_16.f yS; omega), (by first | (have := Z918.n4 (by omega) (by omega); have hX := e19.symm.trans (p_lp_stop (show (p_su1 pb pn pa (p_op pb pn pa 4)) s17 = s17 from if_neg (fun h9 => by omega))); rw [show p_sum pb pn pa (p_op pb pn pa 4) ps = s17 from (by exact hX)]; exact Z918) | (exfalso; have := kKR_16.1 15 _ _ rfl; have := kKR_16.1 16 _ _ rfl; have := kKR_16.1 19 _ _ rfl; have := kKE_16.f yS; omega))⟩
        · refine mv_aload_n d_TrustDeskModel_isSign_8 rfl rfl ?_
          obtain ⟨v31, q30⟩ := tm_atI I_16 h_q0_16 (k := 18) rfl
          refine tr_getK q30 d_TrustDeskModel_isSign_9 f_TrustDeskModel_201_13 ?_
          have := kKR_16.f (k := 18) q30 rfl
          have := tm_rv q30
          refine mv_iload_n d_TrustDeskModel_isSign_12 rfl rfl ?_
          have := mz_hi v31
          refine mv_icmp_neZ (tgt := 20) (a := v31.toInt) (b := 43) d_TrustDeskModel_isSign_13 (by decide) rfl (by decide) (fun b32 => ?_) (fun b32 => ?_)
          · refine mv_iconst (v := 0) d_TrustDeskModel_isSign_20 (by decide) ?_
            refine mv_iret d_TrustDeskModel_isSign_21 rfl (by decide) ?_
            refine mv_if_ne_f (tgt := 29) d_TrustDeskModel_sum_17 (by decide) (by decide) ?_
            refine mv_aload_n d_TrustDeskModel_sum_20 rfl rfl ?_
            refine mv_bipush (v := 45) d_TrustDeskModel_sum_21 (by decide) ?_
            obtain ⟨_, b33, -⟩ := I_16.1 _ _ h_q0_16
            refine mv_callV (kc1 := 0) (ks1 := 0) (kc' := 0) (ks' := 0) (As := [.int 45]) (st9 := [.int 45, .ref o0]) d_TrustDeskModel_sum_23 lV_TrustDeskModel_234 b33 rfl (mj_enter (by decide) (Nat.le_of_ble_eq_true rfl) ?_) rfl (Nat.le_of_ble_eq_true rfl) (Nat.le_of_ble_eq_true rfl) (Nat.le_of_ble_eq_true rfl) (hst := rfl) (fun _ _ _ h => h)
            refine mv_aload_n d_TrustDeskModel_isSign_0 rfl rfl ?_
            refine tr_getK (k := 17) q25 d_TrustDeskModel_isSign_1 f_TrustDeskModel_198_13 ?_
            refine mv_iconst (v := 4) d_TrustDeskModel_isSign_4 (by decide) ?_
            have := mz_hi v26
            refine mv_icmp_neZ (tgt := 20) (a := v26.toInt) (b := 4) d_TrustDeskModel_isSign_5 (by decide) rfl (by decide) (fun b34 => absurd b34 (by omega)) (fun b34 => ?_)
            refine mv_aload_n d_TrustDeskModel_isSign_8 rfl rfl ?_
            refine tr_getK (k := 18) q30 d_TrustDeskModel_isSign_9 f_TrustDeskModel_201_13 ?_
            refine mv_iload_n d_TrustDeskModel_isSign_12 rfl rfl ?_
            have := mz_hi v31
            refine mv_icmp_neZ (tgt := 20) (a := v31.toInt) (b := 45) d_TrustDeskModel_isSign_13 (by decide) rfl (by decide) (fun b35 => ?_) (fun b35 => ?_)
            · refine mv_iconst (v := 0) d_TrustDeskModel_isSign_20 (by decide) ?_
              refine mv_iret d_TrustDeskModel_isSign_21 rfl (by decide) ?_
              refine mv_if_eq_t (tgt := 61) d_TrustDeskModel_sum_26 (by decide) (by decide) ?_
              exact mv_vret d_TrustDeskModel_sum_61 rfl ⟨_, I_16, rfl, kKR_16, kKE_16, (by have := kKR_16.1 15 _ _ rfl; have := kKR_16.1 16 _ _ rfl; have := kKR_16.1 19 _ _ rfl; have := kKE_16.f yS; omega), (by first | (have := Z918.s4 (by omega) (by omega); have hX := e19.symm.trans (p_lp_stop (show (p_su1 pb pn pa (p_op pb pn pa 4)) s17 = s17 from if_neg (fun h9 => by omega))); rw [show p_sum pb pn pa (p_op pb pn pa 4) ps = s17 from (by exact hX)]; exact Z918) | (exfalso; have := kKR_16.1 15 _ _ rfl; have := kKR_16.1 16 _ _ rfl; have := kKR_16.1 19 _ _ rfl; have := kKE_16.f yS; omega))⟩
            · refine mv_iconst (v := 1) d_TrustDeskModel_isSign_16 (by decide) ?_
              refine mv_goto (tgt := 21) d_TrustDeskModel_isSign_17 (by decide) ?_
              refine mv_iret d_TrustDeskModel_isSign_21 rfl (by decide) ?_
              refine mv_if_eq_f (tgt := 61) d_TrustDeskModel_sum_26 (by decide) (by decide) ?_
              refine mv_aload_n d_TrustDeskModel_sum_29 rfl rfl ?_
              refine mv_bipush (v := 43) d_TrustDeskModel_sum_30 (by decide) ?_
              obtain ⟨_, b36, -⟩ := I_16.1 _ _ h_q0_16
              refine mv_callV (kc1 := 0) (ks1 := 0) (kc' := 0) (ks' := 0) (As := [.int 43]) (st9 := [.int 43, .ref o0]) d_TrustDeskModel_sum_32 lV_TrustDeskModel_234 b36 rfl (mj_enter (by decide) (Nat.le_of_ble_eq_true rfl) ?_) rfl (Nat.le_of_ble_eq_true rfl) (Nat.le_of_ble_eq_true rfl) (Nat.le_of_ble_eq_true rfl) (hst := rfl) (fun _ _ _ h => h)
              refine mv_aload_n d_TrustDeskModel_isSign_0 rfl rfl ?_
              refine tr_getK (k := 17) q25 d_TrustDeskModel_isSign_1 f_TrustDeskModel_198_13 ?_
              refine mv_iconst (v := 4) d_TrustDeskModel_isSign_4 (by decide) ?_
              have := mz_hi v26
              refine mv_icmp_neZ (tgt := 20) (a := v26.toInt) (b := 4) d_TrustDeskModel_isSign_5 (by decide) rfl (by decide) (fun b37 => absurd b37 (by omega)) (fun b37 => ?_)
              refine mv_aload_n d_TrustDeskModel_isSign_8 rfl rfl ?_
              refine tr_getK (k := 18) q30 d_TrustDeskModel_isSign_9 f_TrustDeskModel_201_13 ?_
              refine mv_iload_n d_TrustDeskModel_isSign_12 rfl rfl ?_
              have := mz_hi v31
              refine mv_icmp_neZ (tgt := 20) (a := v31.toInt) (b := 43) d_TrustDeskModel_isSign_13 (by decide) rfl (by decide) (fun b38 => ?_) (fun b38 => absurd b38 (by omega))
              refine mv_iconst (v := 0) d_TrustDeskModel_isSign_20 (by decide) ?_
              refine mv_iret d_TrustDeskModel_isSign_21 rfl (by decide) ?_
              refine mv_istore_n (lv' := [(1, .int 0), (0, .ref o0)]) d_TrustDeskModel_sum_35 rfl (by decide) rfl ?_
              refine mv_aload_n d_TrustDeskModel_sum_36 rfl rfl ?_
              obtain ⟨_, b45, -⟩ := I_16.1 _ _ h_q0_16
              refine mv_callV (kc' := 0) (ks' := 0) (As := []) (st9 := [.ref o0]) d_TrustDeskModel_sum_37 lV_TrustDeskModel_237 b45 rfl (tc_TrustDeskModel_next_x (d := (d + 18)) (x9 := x9) (o0 := o0) h_q0_16 kKR_16 Z918.p I_16.start) rfl (Nat.le_of_ble_eq_true rfl) (Nat.le_of_ble_eq_true rfl) (Nat.le_of_ble_eq_true rfl) (hst := rfl) (fun b39r M40 n41 b39 => ?_)
              obtain ⟨T42, J43, rfl, R46, f47, f48, f49⟩ := b39
              have I44 := I_16.call J43 (tm_sub (by decide)) (Or.inl rfl)
              have t50 := J43.up h_q0_16
              have z51 := (rv_c I_16 J43 (I_16.up h_o0) (k := 19) rfl)
              have z52 := (rv_c I_16 J43 (I_16.up h_o0) (k := 22) rfl)
              have h54 : rv M_16 o0 16 + 1 ≤ rv M_16 o0 15 := (by have := kKR_16.1 15 _ _ rfl; have := kKR_16.1 16 _ _ rfl; have := kKR_16.1 19 _ _ rfl; have := kKE_16.f yS; omega)
              have E53 : rE M0 M40 o0 1 1 := kKE_16.next f47 f48 (rv_c I_16 J43 (I_16.up h_o0) (k := 19) rfl) (rE_ha I_16 J43 (I_16.up h_o0) (by decide)) (e := 1) h54 (by decide)
              obtain ⟨s55, e56⟩ : ∃ s9 : p_S, p_nx s17 = s9 := ⟨_, rfl⟩
              rw [e56] at f49
              have := f49.w
              have q57 := J43.keep h_q0_16 (by decide) q21
              refine mv_aload_n d_TrustDeskModel_sum_40 rfl rfl ?_
              obtain ⟨_, b64, -⟩ := I44.1 _ _ t50
              refine mv_callV (kc' := 0) (ks' := 0) (As := []) (st9 := [.ref o0]) d_TrustDeskModel_sum_41 lV_TrustDeskModel_297 b64 rfl (tc_TrustDeskModel_product_q5_x (d := d) (x9 := x9) (o0 := o0) t50 R46 E53.1 (by have := R46.1 15 _ _ rfl; have := R46.1 16 _ _ rfl; have := R46.1 19 _ _ rfl; have := E53.f yS; omega) (by have := R46.1 15 _ _ rfl; have := R46.1 16 _ _ rfl; have := R46.1 19 _ _ rfl; have := E53.f yS; omega) f49 I44.start) rfl (Nat.le_of_ble_eq_true rfl) (Nat.le_of_ble_eq_true rfl) (Nat.le_of_ble_eq_true rfl) (hst := rfl) (fun b58r M59 n60 b58 => ?_)
              obtain ⟨T61, J62, rfl, R65, f66, f67, f68⟩ := b58
              have I63 := I44.call J62 (tm_sub (by decide)) (Or.inl rfl)
              have t69 := J62.up t50
              have E70 : rE M0 M59 o0 2 1 := E53.trans f66 (by decide) (yR.2 5 _ _ rfl 44).1 (by decide) (by decide)
              have := f66.w
              obtain ⟨s71, e72⟩ : ∃ s9 : p_S, p_pro pb pn pa (p_op pb pn pa 4) s55 = s9 := ⟨_, rfl⟩
              rw [e72] at f68
              have := f68.w
              refine mv_aload_n d_TrustDeskModel_sum_44 rfl rfl ?_
              refine mv_iload_n d_TrustDeskModel_sum_45 rfl rfl ?_
              refine mv_if_eq_t (tgt := 53) d_TrustDeskModel_sum_46 (by decide) (by decide) ?_
              refine mv_bipush (v := (-2)) d_TrustDeskModel_sum_53 (by decide) ?_
              obtain ⟨_, b79, -⟩ := I63.1 _ _ t69
              have : ((-2) : Int32).toInt = (-2) := by decide
              refine mv_callV (kc' := 0) (ks' := 0) (As := [.int (-2)]) (st9 := [.int (-2), .ref o0]) d_TrustDeskModel_sum_55 lV_TrustDeskModel_279 b79 rfl (tc_TrustDeskModel_emits_x (d := (d + 18)) (x9 := x9) (o0 := o0) (x1 := (-2)) t69 R65 (by have := R65.1 15 _ _ rfl; have := R65.1 16 _ _ rfl; have := R65.1 19 _ _ rfl; have := E70.f yS; omega) (by decide) I63.start) rfl (Nat.le_of_ble_eq_true rfl) (Nat.le_of_ble_eq_true rfl) (Nat.le_of_ble_eq_true rfl) (hst := rfl) (fun b73r M74 n75 b73 => ?_)
              obtain ⟨T76, J77, rfl, R80, f81⟩ := b73
              have I78 := I63.call J77 (tm_sub (by decide)) (Or.inl rfl)
              have t82 := J77.up t69
              have z83 := (rv_c I63 J77 (I63.up h_o0) (k := 16) rfl)
              have z84 := (rv_c I63 J77 (I63.up h_o0) (k := 17) rfl)
              have z85 := (rv_c I63 J77 (I63.up h_o0) (k := 19) rfl)
              have z86 := (rv_c I63 J77 (I63.up h_o0) (k := 22) rfl)
              have E87 : rE M0 M74 o0 1 0 := E70.emit f81 (rE_hv I63 J77 (I63.up h_o0) 15 19 (by decide)) (yR.2 5 _ _ rfl 44).1 (by decide) (Or.inr (Or.inr ⟨by decide, by decide, by decide, by decide⟩)) (by decide)
              have Z988 : pO M74 o0 pb pn pa s71 := f68.same (rE_hv I63 J77 (I63.up h_o0) 14 20 (by decide)) (rv_c I63 J77 (I63.up h_o0) (k := 23) rfl) (ra_call I63 J77 (I63.up h_o0) (k := 13) rfl rfl rfl)
              refine mv_goto (tgt := 4) d_TrustDeskModel_sum_58 (by decide) ?_
              have T89 : ∃ s1 : p_S, pO M74 o0 pb pn pa s1 ∧ p_lp pn (p_su1 pb pn pa (p_op pb pn pa 4)) s1 = p_sum pb pn pa (p_op pb pn pa 4) ps := ⟨s71, Z988, (by have st : (p_su1 pb pn pa (p_op pb pn pa 4)) s17 = s71 := (by have := Z918.s4 (by omega) (by omega); rw [show (p_su1 pb pn pa (p_op pb pn pa 4)) s17 = p_pro pb pn pa (p_op pb pn pa 4) (p_nx s17) from if_pos ⟨by omega, by omega⟩]; simp only [e56, e72]); rw [← st, p_P.go (p_su1_P (p_op_M _)) s17]; exact e19)⟩
              refine mv_locals (lv' := [(0, .ref o0)]) (by intro q hq; simp only [List.mem_cons, List.not_mem_nil, or_false] at hq; rcases hq with rfl <;> rfl) ?_
              exact (ih16 T76 M74 n75 I78 t82 (by have := R80.1 15 _ _ rfl; have := R80.1 16 _ _ rfl; have := R80.1 19 _ _ rfl; have := E87.f yS; first | omega | decide | exact fun h9 => absurd (by decide) h9) R80 E87 T89 (by have := R80.1 15 _ _ rfl; have := R80.1 16 _ _ rfl; have := R80.1 19 _ _ rfl; have := E87.f yS; omega))
          · refine mv_iconst (v := 1) d_TrustDeskModel_isSign_16 (by decide) ?_
            refine mv_goto (tgt := 21) d_TrustDeskModel_isSign_17 (by decide) ?_
            refine mv_iret d_TrustDeskModel_isSign_21 rfl (by decide) ?_
            refine mv_if_ne_t (tgt := 29) d_TrustDeskModel_sum_17 (by decide) (by decide) ?_
            refine mv_aload_n d_TrustDeskModel_sum_29 rfl rfl ?_
            refine mv_bipush (v := 43) d_TrustDeskModel_sum_30 (by decide) ?_
            obtain ⟨_, b90, -⟩ := I_16.1 _ _ h_q0_16
            refine mv_callV (kc1 := 0) (ks1 := 0) (kc' := 0) (ks' := 0) (As := [.int 43]) (st9 := [.int 43, .ref o0]) d_TrustDeskModel_sum_32 lV_TrustDeskModel_234 b90 rfl (mj_enter (by decide) (Nat.le_of_ble_eq_true rfl) ?_) rfl (Nat.le_of_ble_eq_true rfl) (Nat.le_of_ble_eq_true rfl) (Nat.le_of_ble_eq_true rfl) (hst := rfl) (fun _ _ _ h => h)
            refine mv_aload_n d_TrustDeskModel_isSign_0 rfl rfl ?_
            refine tr_getK (k := 17) q25 d_TrustDeskModel_isSign_1 f_TrustDeskModel_198_13 ?_
            refine mv_iconst (v := 4) d_TrustDeskModel_isSign_4 (by decide) ?_
            have := mz_hi v26
            refine mv_icmp_neZ (tgt := 20) (a := v26.toInt) (b := 4) d_TrustDeskModel_isSign_5 (by decide) rfl (by decide) (fun b91 => absurd b91 (by omega)) (fun b91 => ?_)
            refine mv_aload_n d_TrustDeskModel_isSign_8 rfl rfl ?_
            refine tr_getK (k := 18) q30 d_TrustDeskModel_isSign_9 f_TrustDeskModel_201_13 ?_
            refine mv_iload_n d_TrustDeskModel_isSign_12 rfl rfl ?_
            have := mz_hi v31
            refine mv_icmp_neZ (tgt := 20) (a := v31.toInt) (b := 43) d_TrustDeskModel_isSign_13 (by decide) rfl (by decide) (fun b92 => absurd b92 (by omega)) (fun b92 => ?_)
            refine mv_iconst (v := 1) d_TrustDeskModel_isSign_16 (by decide) ?_
            refine mv_goto (tgt := 21) d_TrustDeskModel_isSign_17 (by decide) ?_
            refine mv_iret d_TrustDeskModel_isSign_21 rfl (by decide) ?_
            refine mv_istore_n (lv' := [(1, .int 1), (0, .ref o0)]) d_TrustDeskModel_sum_35 rfl (by decide) rfl ?_
            refine mv_aload_n d_TrustDeskModel_sum_36 rfl rfl ?_
            obtain ⟨_, b99, -⟩ := I_16.1 _ _ h_q0_16
            refine mv_callV (kc' := 0) (ks' := 0) (As := []) (st9 := [.ref o0]) d_TrustDeskModel_sum_37 lV_TrustDeskModel_237 b99 rfl (tc_TrustDeskModel_next_x (d := (d + 18)) (x9 := x9) (o0 := o0) h_q0_16 kKR_16 Z918.p I_16.start) rfl (Nat.le_of_ble_eq_true rfl) (Nat.le_of_ble_eq_true rfl) (Nat.le_of_ble_eq_true rfl) (hst := rfl) (fun b93r M94 n95 b93 => ?_)
            obtain ⟨T96, J97, rfl, R100, f101, f102, f103⟩ := b93
            have I98 := I_16.call J97 (tm_sub (by decide)) (Or.inl rfl)
            have t104 := J97.up h_q0_16
            have z105 := (rv_c I_16 J97 (I_16.up h_o0) (k := 19) rfl)
            have z106 := (rv_c I_16 J97 (I_16.up h_o0) (k := 22) rfl)
            have h108 : rv M_16 o0 16 + 1 ≤ rv M_16 o0 15 := (by have := kKR_16.1 15 _ _ rfl; have := kKR_16.1 16 _ _ rfl; have := kKR_16.1 19 _ _ rfl; have := kKE_16.f yS; omega)
            have E107 : rE M0 M94 o0 1 1 := kKE_16.next f101 f102 (rv_c I_16 J97 (I_16.up h_o0) (k := 19) rfl) (rE_ha I_16 J97 (I_16.up h_o0) (by decide)) (e := 1) h108 (by decide)
            obtain ⟨s109, e110⟩ : ∃ s9 : p_S, p_nx s17 = s9 := ⟨_, rfl⟩
            rw [e110] at f103
            have := f103.w
            have q111 := J97.keep h_q0_16 (by decide) q21
            refine mv_aload_n d_TrustDeskModel_sum_40 rfl rfl ?_
            obtain ⟨_, b118, -⟩ := I98.1 _ _ t104
            refine mv_callV (kc' := 0) (ks' := 0) (As := []) (st9 := [.ref o0]) d_TrustDeskModel_sum_41 lV_TrustDeskModel_297 b118 rfl (tc_TrustDeskModel_product_q5_x (d := d) (x9 := x9) (o0 := o0) t104 R100 E107.1 (by have := R100.1 15 _ _ rfl; have := R100.1 16 _ _ rfl; have := R100.1 19 _ _ rfl; have := E107.f yS; omega) (by have := R100.1 15 _ _ rfl; have := R100.1 16 _ _ rfl; have := R100.1 19 _ _ rfl; have := E107.f yS; omega) f103 I98.start) rfl (Nat.le_of_ble_eq_true rfl) (Nat.le_of_ble_eq_true rfl) (Nat.le_of_ble_eq_true rfl) (hst := rfl) (fun b112r M113 n114 b112 => ?_)
            obtain ⟨T115, J116, rfl, R119, f120, f121, f122⟩ := b112
            have I117 := I98.call J116 (tm_sub (by decide)) (Or.inl rfl)
            have t123 := J116.up t104
            have E124 : rE M0 M113 o0 2 1 := E107.trans f120 (by decide) (yR.2 5 _ _ rfl 44).1 (by decide) (by decide)
            have := f120.w
            obtain ⟨s125, e126⟩ : ∃ s9 : p_S, p_pro pb pn pa (p_op pb pn pa 4) s109 = s9 := ⟨_, rfl⟩
            rw [e126] at f122
            have := f122.w
            refine mv_aload_n d_TrustDeskModel_sum_44 rfl rfl ?_
            refine mv_iload_n d_TrustDeskModel_sum_45 rfl rfl ?_
            refine mv_if_eq_f (tgt := 53) d_TrustDeskModel_sum_46 (by decide) (by decide) ?_
            refine mv_iconst (v := (-1)) d_TrustDeskModel_sum_49 (by decide) ?_
            refine mv_goto (tgt := 55) d_TrustDeskModel_sum_50 (by decide) ?_
            obtain ⟨_, b133, -⟩ := I117.1 _ _ t123
            have : ((-1) : Int32).toInt = (-1) := by decide
            refine mv_callV (kc' := 0) (ks' := 0) (As := [.int (-1)]) (st9 := [.int (-1), .ref o0]) d_TrustDeskModel_sum_55 lV_TrustDeskModel_279 b133 rfl (tc_TrustDeskModel_emits_x (d := (d + 18)) (x9 := x9) (o0 := o0) (x1 := (-1)) t123 R119 (by have := R119.1 15 _ _ rfl; have := R119.1 16 _ _ rfl; have := R119.1 19 _ _ rfl; have := E124.f yS; omega) (by decide) I117.start) rfl (Nat.le_of_ble_eq_true rfl) (Nat.le_of_ble_eq_true rfl) (Nat.le_of_ble_eq_true rfl) (hst := rfl) (fun b127r M128 n129 b127 => ?_)
            obtain ⟨T130, J131, rfl, R134, f135⟩ := b127
            have I132 := I117.call J131 (tm_sub (by decide)) (Or.inl rfl)
            have t136 := J131.up t123
            have z137 := (rv_c I117 J131 (I117.up h_o0) (k := 16) rfl)
            have z138 := (rv_c I117 J131 (I117.up h_o0) (k := 17) rfl)
            have z139 := (rv_c I117 J131 (I117.up h_o0) (k := 19) rfl)
            have z140 := (rv_c I117 J131 (I117.up h_o0) (k := 22) rfl)
            have E141 : rE M0 M128 o0 1 0 := E124.emit f135 (rE_hv I117 J131 (I117.up h_o0) 15 19 (by decide)) (yR.2 5 _ _ rfl 44).1 (by decide) (Or.inr (Or.inr ⟨by decide, by decide, by decide, by decide⟩)) (by decide)
            have Z9142 : pO M128 o0 pb pn pa s125 := f122.same (rE_hv I117 J131 (I117.up h_o0) 14 20 (by decide)) (rv_c I117 J131 (I117.up h_o0) (k := 23) rfl) (ra_call I117 J131 (I117.up h_o0) (k := 13) rfl rfl rfl)
            refine mv_goto (tgt := 4) d_TrustDeskModel_sum_58 (by decide) ?_
            have T143 : ∃ s1 : p_S, pO M128 o0 pb pn pa s1 ∧ p_lp pn (p_su1 pb pn pa (p_op pb pn pa 4)) s1 = p_sum pb pn pa (p_op pb pn pa 4) ps := ⟨s125, Z9142, (by have st : (p_su1 pb pn pa (p_op pb pn pa 4)) s17 = s125 := (by have := Z918.s4 (by omega) (by omega); rw [show (p_su1 pb pn pa (p_op pb pn pa 4)) s17 = p_pro pb pn pa (p_op pb pn pa 4) (p_nx s17) from if_pos ⟨by omega, by omega⟩]; simp only [e110, e126]); rw [← st, p_P.go (p_su1_P (p_op_M _)) s17]; exact e19)⟩
            refine mv_locals (lv' := [(0, .ref o0)]) (by intro q hq; simp only [List.mem_cons, List.not_mem_nil, or_false] at hq; rcases hq with rfl <;> rfl) ?_
            exact (ih16 T130 M128 n129 I132 t136 (by have := R134.1 15 _ _ rfl; have := R134.1 16 _ _ rfl; have := R134.1 19 _ _ rfl; have := E141.f yS; first | omega | decide | exact fun h9 => absurd (by decide) h9) R134 E141 T143 (by have := R134.1 15 _ _ rfl; have := R134.1 16 _ _ rfl; have := R134.1 19 _ _ rfl; have := E141.f yS; omega))
  have T144 : ∃ s1 : p_S, pO M2 o0 pb pn pa s1 ∧ p_lp pn (p_su1 pb pn pa (p_op pb pn pa 4)) s1 = p_sum pb pn pa (p_op pb pn pa 4) ps := ⟨s14, f11, (by rw [← e15]; rfl)⟩
  exact mv_less (Nat.zero_le _) (Nat.zero_le _) (L4_16 4294967296 T4 M2 n3 I6 t12 (by have := R8.1 15 _ _ rfl; have := R8.1 16 _ _ rfl; have := R8.1 19 _ _ rfl; have := E13.f yS; first | omega | decide | exact fun h9 => absurd (by decide) h9) R8 E13 T144 (by have := R8.1 15 _ _ rfl; have := R8.1 16 _ _ rfl; have := R8.1 19 _ _ rfl; have := E13.f yS; omega))
