def w_TrustDeskModel_factor_q4_x : List Nat := [1315, 1316, 1317, 1318, 1319, 1320, 1322, 20004, 20005]
theorem tc_TrustDeskModel_factor_q4_x {g : mj_G} {l : Launch} {d : Nat} {T0 : tm_H} {M0 : mj_M} {n0 x9 : Nat} {o0 : Nat} (h_o0 : T0 o0 = some (0, 13, 0)) (yR : rI M0 o0) (yT : rT M0 o0) (yS : rv M0 o0 19 = 0 → ra M0 o0 5 44 ≤ rv M0 o0 16) (yL : rv M0 o0 19 ≠ 0 ∨ (1 ≤ rv M0 o0 22 ∧ rv M0 o0 22 ≤ 4)) (I0 : tm_I tm_FT (tm_in w_TrustDeskModel_factor_q4_x) x9 T0 M0 n0 T0 M0 n0) : mj_Met g l kY_TrustDeskModel_factor (d + 15) [.ref o0] M0 n0 0 0 (tm_Q tm_FT (tm_in w_TrustDeskModel_factor_q4_x) x9 T0 M0 n0 (fun r _ M => r = none ∧ rI M o0 ∧ (rE M0 M o0 1 0) ∧ (rv M o0 19 = 0 → rv M o0 22 = rv M0 o0 22))) := by
  refine mj_enter (by decide) (Nat.le_of_ble_eq_true rfl) ?_
  have yE0 := rE.rf yT
  refine mv_aload_n d_TrustDeskModel_factor_0 rfl rfl ?_
  obtain ⟨_, b1, -⟩ := I0.1 _ _ h_o0
  refine mv_callV (kc1 := 0) (ks1 := 0) (kc' := 0) (ks' := 0) (As := []) (st9 := [.ref o0]) d_TrustDeskModel_factor_1 lV_TrustDeskModel_230 b1 rfl (mj_enter (by decide) (Nat.le_of_ble_eq_true rfl) ?_) rfl (Nat.le_of_ble_eq_true rfl) (Nat.le_of_ble_eq_true rfl) (Nat.le_of_ble_eq_true rfl) (hst := rfl) (fun _ _ _ h => h)
  refine mv_aload_n d_TrustDeskModel_isWell_0 rfl rfl ?_
  obtain ⟨v3, q2⟩ := tm_atI I0 h_o0 (k := 19) rfl
  refine tr_getK q2 d_TrustDeskModel_isWell_1 f_TrustDeskModel_224_13 ?_
  have := yR.f (k := 19) q2 rfl
  have := tm_rv q2
  have := mz_hi v3
  refine mv_if_neZ (tgt := 11) (a := v3.toInt) d_TrustDeskModel_isWell_4 (by decide) rfl (fun b4 => ?_) (fun b4 => ?_)
  · refine mv_iconst (v := 0) d_TrustDeskModel_isWell_11 (by decide) ?_
    refine mv_iret d_TrustDeskModel_isWell_12 rfl (by decide) ?_
    refine mv_if_ne_f (tgt := 8) d_TrustDeskModel_factor_4 (by decide) (by decide) ?_
    exact mv_vret d_TrustDeskModel_factor_7 rfl ⟨_, I0, rfl, yR, yE0.vac (by have := yR.1 15 _ _ rfl; have := yR.1 16 _ _ rfl; have := yR.1 19 _ _ rfl; have := yE0.f yS; omega) 1 0, (by have := yR.1 15 _ _ rfl; have := yR.1 16 _ _ rfl; have := yR.1 19 _ _ rfl; have := yE0.f yS; omega)⟩
  · refine mv_iconst (v := 1) d_TrustDeskModel_isWell_7 (by decide) ?_
    refine mv_goto (tgt := 12) d_TrustDeskModel_isWell_8 (by decide) ?_
    refine mv_iret d_TrustDeskModel_isWell_12 rfl (by decide) ?_
    refine mv_if_ne_t (tgt := 8) d_TrustDeskModel_factor_4 (by decide) (by decide) ?_
    refine mv_aload_n d_TrustDeskModel_factor_8 rfl rfl ?_
    obtain ⟨v6, q5⟩ := tm_atI I0 h_o0 (k := 17) rfl
    refine tr_getK q5 d_TrustDeskModel_factor_9 f_TrustDeskModel_198_13 ?_
    have := tm_rv q5
    refine mv_iconst (v := 2) d_TrustDeskModel_factor_12 (by decide) ?_
    have := mz_hi v6
    refine mv_icmp_neZ (tgt := 31) (a := v6.toInt) (b := 2) d_TrustDeskModel_factor_13 (by decide) rfl (by decide) (fun b7 => ?_) (fun b7 => ?_)
    · refine mv_aload_n d_TrustDeskModel_factor_31 rfl rfl ?_
      refine tr_getK (k := 17) q5 d_TrustDeskModel_factor_32 f_TrustDeskModel_198_13 ?_
      refine mv_iconst (v := 3) d_TrustDeskModel_factor_35 (by decide) ?_
      have := mz_hi v6
      refine mv_icmp_neZ (tgt := 77) (a := v6.toInt) (b := 3) d_TrustDeskModel_factor_36 (by decide) rfl (by decide) (fun b8 => ?_) (fun b8 => ?_)
      · refine mv_aload_n d_TrustDeskModel_factor_77 rfl rfl ?_
        refine mv_bipush (v := 40) d_TrustDeskModel_factor_78 (by decide) ?_
        obtain ⟨_, b9, -⟩ := I0.1 _ _ h_o0
        refine mv_callV (kc1 := 0) (ks1 := 0) (kc' := 0) (ks' := 0) (As := [.int 40]) (st9 := [.int 40, .ref o0]) d_TrustDeskModel_factor_80 lV_TrustDeskModel_234 b9 rfl (mj_enter (by decide) (Nat.le_of_ble_eq_true rfl) ?_) rfl (Nat.le_of_ble_eq_true rfl) (Nat.le_of_ble_eq_true rfl) (Nat.le_of_ble_eq_true rfl) (hst := rfl) (fun _ _ _ h => h)
        refine mv_aload_n d_TrustDeskModel_isSign_0 rfl rfl ?_
        refine tr_getK (k := 17) q5 d_TrustDeskModel_isSign_1 f_TrustDeskModel_198_13 ?_
        refine mv_iconst (v := 4) d_TrustDeskModel_isSign_4 (by decide) ?_
        have := mz_hi v6
        refine mv_icmp_neZ (tgt := 20) (a := v6.toInt) (b := 4) d_TrustDeskModel_isSign_5 (by decide) rfl (by decide) (fun b10 => ?_) (fun b10 => ?_)
        · refine mv_iconst (v := 0) d_TrustDeskModel_isSign_20 (by decide) ?_
          refine mv_iret d_TrustDeskModel_isSign_21 rfl (by decide) ?_
          refine mv_if_eq_t (tgt := 113) d_TrustDeskModel_factor_83 (by decide) (by decide) ?_
          refine mv_aload_n d_TrustDeskModel_factor_113 rfl rfl ?_
          refine mv_iconst (v := 1) d_TrustDeskModel_factor_114 (by decide) ?_
          obtain ⟨_, b17, -⟩ := I0.1 _ _ h_o0
          refine mv_callV (kc' := 0) (ks' := 0) (As := [.int 1]) (st9 := [.int 1, .ref o0]) d_TrustDeskModel_factor_115 lV_TrustDeskModel_240 b17 rfl (tc_TrustDeskModel_fails_x (d := (d + 14)) (x9 := x9) (o0 := o0) (x1 := 1) h_o0 yR (by decide) I0.start) rfl (Nat.le_of_ble_eq_true rfl) (Nat.le_of_ble_eq_true rfl) (Nat.le_of_ble_eq_true rfl) (hst := rfl) (fun b11r M12 n13 b11 => ?_)
          obtain ⟨T14, J15, rfl, R18, f19⟩ := b11
          have I16 := I0.call J15 (tm_sub (by decide)) (Or.inl rfl)
          have t20 := J15.up h_o0
          have := (rv_c I0 J15 (I0.up h_o0) (k := 16) rfl)
          have := (rv_c I0 J15 (I0.up h_o0) (k := 17) rfl)
          have := (rv_c I0 J15 (I0.up h_o0) (k := 22) rfl)
          have E21 : rE M0 M12 o0 0 0 := yE0.fails (rE_hv I0 J15 (I0.up h_o0) 15 18 (by decide)) (rE_ha I0 J15 (I0.up h_o0) (by decide)) f19 0 0
          have q22 := J15.keep h_o0 (by decide) q5
          exact mv_vret d_TrustDeskModel_factor_118 rfl ⟨_, I16, rfl, R18, E21.vac (by have := R18.1 15 _ _ rfl; have := R18.1 16 _ _ rfl; have := R18.1 19 _ _ rfl; have := E21.f yS; omega) 1 0, (by have := R18.1 15 _ _ rfl; have := R18.1 16 _ _ rfl; have := R18.1 19 _ _ rfl; have := E21.f yS; omega)⟩
        · refine mv_aload_n d_TrustDeskModel_isSign_8 rfl rfl ?_
          obtain ⟨v24, q23⟩ := tm_atI I0 h_o0 (k := 18) rfl
          refine tr_getK q23 d_TrustDeskModel_isSign_9 f_TrustDeskModel_201_13 ?_
          have := yR.f (k := 18) q23 rfl
          have := tm_rv q23
          refine mv_iload_n d_TrustDeskModel_isSign_12 rfl rfl ?_
          have := mz_hi v24
          refine mv_icmp_neZ (tgt := 20) (a := v24.toInt) (b := 40) d_TrustDeskModel_isSign_13 (by decide) rfl (by decide) (fun b25 => ?_) (fun b25 => ?_)
          · refine mv_iconst (v := 0) d_TrustDeskModel_isSign_20 (by decide) ?_
            refine mv_iret d_TrustDeskModel_isSign_21 rfl (by decide) ?_
            refine mv_if_eq_t (tgt := 113) d_TrustDeskModel_factor_83 (by decide) (by decide) ?_
            refine mv_aload_n d_TrustDeskModel_factor_113 rfl rfl ?_
            refine mv_iconst (v := 1) d_TrustDeskModel_factor_114 (by decide) ?_
            obtain ⟨_, b32, -⟩ := I0.1 _ _ h_o0
            refine mv_callV (kc' := 0) (ks' := 0) (As := [.int 1]) (st9 := [.int 1, .ref o0]) d_TrustDeskModel_factor_115 lV_TrustDeskModel_240 b32 rfl (tc_TrustDeskModel_fails_x (d := (d + 14)) (x9 := x9) (o0 := o0) (x1 := 1) h_o0 yR (by decide) I0.start) rfl (Nat.le_of_ble_eq_true rfl) (Nat.le_of_ble_eq_true rfl) (Nat.le_of_ble_eq_true rfl) (hst := rfl) (fun b26r M27 n28 b26 => ?_)
            obtain ⟨T29, J30, rfl, R33, f34⟩ := b26
            have I31 := I0.call J30 (tm_sub (by decide)) (Or.inl rfl)
            have t35 := J30.up h_o0
            have := (rv_c I0 J30 (I0.up h_o0) (k := 16) rfl)
            have := (rv_c I0 J30 (I0.up h_o0) (k := 17) rfl)
            have := (rv_c I0 J30 (I0.up h_o0) (k := 22) rfl)
            have E36 : rE M0 M27 o0 0 0 := yE0.fails (rE_hv I0 J30 (I0.up h_o0) 15 18 (by decide)) (rE_ha I0 J30 (I0.up h_o0) (by decide)) f34 0 0
            have q37 := J30.keep h_o0 (by decide) q5
            have q38 := J30.keep h_o0 (by decide) q23
            exact mv_vret d_TrustDeskModel_factor_118 rfl ⟨_, I31, rfl, R33, E36.vac (by have := R33.1 15 _ _ rfl; have := R33.1 16 _ _ rfl; have := R33.1 19 _ _ rfl; have := E36.f yS; omega) 1 0, (by have := R33.1 15 _ _ rfl; have := R33.1 16 _ _ rfl; have := R33.1 19 _ _ rfl; have := E36.f yS; omega)⟩
          · refine mv_iconst (v := 1) d_TrustDeskModel_isSign_16 (by decide) ?_
            refine mv_goto (tgt := 21) d_TrustDeskModel_isSign_17 (by decide) ?_
            refine mv_iret d_TrustDeskModel_isSign_21 rfl (by decide) ?_
            refine mv_if_eq_f (tgt := 113) d_TrustDeskModel_factor_83 (by decide) (by decide) ?_
            refine mv_aload_n d_TrustDeskModel_factor_86 rfl rfl ?_
            obtain ⟨_, b45, -⟩ := I0.1 _ _ h_o0
            refine mv_callV (kc' := 0) (ks' := 0) (As := []) (st9 := [.ref o0]) d_TrustDeskModel_factor_87 lV_TrustDeskModel_285 b45 rfl (tc_TrustDeskModel_opens_x (d := (d + 12)) (x9 := x9) (o0 := o0) h_o0 yR yE0.1 (by have := yR.1 15 _ _ rfl; have := yR.1 16 _ _ rfl; have := yR.1 19 _ _ rfl; have := yE0.f yS; omega) (by have := yR.1 15 _ _ rfl; have := yR.1 16 _ _ rfl; have := yR.1 19 _ _ rfl; have := yE0.f yS; omega) (by have := yR.1 15 _ _ rfl; have := yR.1 16 _ _ rfl; have := yR.1 19 _ _ rfl; have := yE0.f yS; omega) I0.start) rfl (Nat.le_of_ble_eq_true rfl) (Nat.le_of_ble_eq_true rfl) (Nat.le_of_ble_eq_true rfl) (hst := rfl) (fun b39r M40 n41 b39 => ?_)
            obtain ⟨T42, J43, rfl, R46, f47, f48⟩ := b39
            have I44 := I0.call J43 (tm_sub (by decide)) (Or.inl rfl)
            have t49 := J43.up h_o0
            have E50 : rE M0 M40 o0 0 1 := yE0.trans f47 (by decide) (yR.2 5 _ _ rfl 44).1 (by decide) (by decide)
            have := f47.w
            refine mv_aload_n d_TrustDeskModel_factor_90 rfl rfl ?_
            obtain ⟨_, b57, -⟩ := I44.1 _ _ t49
            refine mv_callV (kc' := 0) (ks' := 0) (As := []) (st9 := [.ref o0]) d_TrustDeskModel_factor_91 lV_TrustDeskModel_288 b57 rfl (tc_TrustDeskModel_sum_q3_x (d := d) (x9 := x9) (o0 := o0) t49 R46 E50.1 (by have := R46.1 15 _ _ rfl; have := R46.1 16 _ _ rfl; have := R46.1 19 _ _ rfl; have := E50.f yS; omega) (by have := R46.1 15 _ _ rfl; have := R46.1 16 _ _ rfl; have := R46.1 19 _ _ rfl; have := E50.f yS; omega) I44.start) rfl (Nat.le_of_ble_eq_true rfl) (Nat.le_of_ble_eq_true rfl) (Nat.le_of_ble_eq_true rfl) (hst := rfl) (fun b51r M52 n53 b51 => ?_)
            obtain ⟨T54, J55, rfl, R58, f59, f60⟩ := b51
            have I56 := I44.call J55 (tm_sub (by decide)) (Or.inl rfl)
            have t61 := J55.up t49
            have E62 : rE M0 M52 o0 1 1 := E50.trans f59 (by decide) (yR.2 5 _ _ rfl 44).1 (by decide) (by decide)
            have := f59.w
            refine mv_aload_n d_TrustDeskModel_factor_94 rfl rfl ?_
            refine mv_bipush (v := 41) d_TrustDeskModel_factor_95 (by decide) ?_
            obtain ⟨_, b69, -⟩ := I56.1 _ _ t61
            refine mv_callV (kc' := 0) (ks' := 0) (As := [.int 41]) (st9 := [.int 41, .ref o0]) d_TrustDeskModel_factor_97 lV_TrustDeskModel_291 b69 rfl (tc_TrustDeskModel_wantSign_x (d := (d + 12)) (x9 := x9) (o0 := o0) (x1 := 41) t61 R58 E62.1 (by have := R58.1 15 _ _ rfl; have := R58.1 16 _ _ rfl; have := R58.1 19 _ _ rfl; have := E62.f yS; omega) I56.start) rfl (Nat.le_of_ble_eq_true rfl) (Nat.le_of_ble_eq_true rfl) (Nat.le_of_ble_eq_true rfl) (hst := rfl) (fun b63r M64 n65 b63 => ?_)
            obtain ⟨T66, J67, rfl, R70, f71⟩ := b63
            have I68 := I56.call J67 (tm_sub (by decide)) (Or.inl rfl)
            have t72 := J67.up t61
            have := (rv_c I56 J67 (I56.up h_o0) (k := 22) rfl)
            have E73 : rE M0 M64 o0 1 2 := E62.trans f71 (by decide) (yR.2 5 _ _ rfl 44).1 (by decide) (by decide)
            have := f71.w
            refine mv_aload_n d_TrustDeskModel_factor_100 rfl rfl ?_
            refine mv_dup d_TrustDeskModel_factor_101 rfl ?_
            obtain ⟨v75, q74⟩ := tm_atI I68 t72 (k := 22) rfl
            refine tr_getK q74 d_TrustDeskModel_factor_102 f_TrustDeskModel_276_13 ?_
            have := tm_rv q74
            refine mv_iconst (v := 1) d_TrustDeskModel_factor_105 (by decide) ?_
            refine mv_isub d_TrustDeskModel_factor_106 ?_
            have : rv M64 o0 19 = 0 → (v75 - 1 : Int32).toInt = v75.toInt - 1 := fun h9 => mz_sub2 rfl (by decide) (by omega) (by omega)
            refine tr_putR (k := 22) I68 R70 t72 rfl ⟨_, rfl⟩ (fun _ h => by cases h) rfl (fun lo hi h => by cases h) (Or.inl (by decide)) d_TrustDeskModel_factor_107 p_TrustDeskModel_276_13 rfl rfl (fun M76 I77 q78 K79 R80 A81 V82 => ?_)
            have := V82 16 (by decide)
            have := V82 17 (by decide)
            have := V82 19 (by decide)
            have := tm_rv q78
            have E83 : rE M0 M76 o0 1 2 := E73.same (fun k h1 h2 => V82 k (by omega)) (fun k h1 h2 => A81 k (by omega))
            refine mv_goto (tgt := 118) d_TrustDeskModel_factor_110 (by decide) ?_
            exact mv_vret d_TrustDeskModel_factor_118 rfl ⟨_, I77, rfl, R80, E83.less (by decide), (by have := R80.1 15 _ _ rfl; have := R80.1 16 _ _ rfl; have := R80.1 19 _ _ rfl; have := E83.f yS; omega)⟩
      · refine mv_aload_n d_TrustDeskModel_factor_39 rfl rfl ?_
        obtain ⟨_, b90, -⟩ := I0.1 _ _ h_o0
        refine mv_callV (kc' := 0) (ks' := 0) (As := []) (st9 := [.ref o0]) d_TrustDeskModel_factor_40 lV_TrustDeskModel_282 b90 rfl (tc_TrustDeskModel_name_x (d := (d + 9)) (x9 := x9) (o0 := o0) h_o0 yR I0.start) rfl (Nat.le_of_ble_eq_true rfl) (Nat.le_of_ble_eq_true rfl) (Nat.le_of_ble_eq_true rfl) (hst := rfl) (fun b84r M85 n86 b84 => ?_)
        obtain ⟨T87, J88, v91, rfl, R92, f93⟩ := b84
        have I89 := I0.call J88 (tm_sub (by decide)) (Or.inl rfl)
        have t94 := J88.up h_o0
        have := (rv_c I0 J88 (I0.up h_o0) (k := 16) rfl)
        have := (rv_c I0 J88 (I0.up h_o0) (k := 17) rfl)
        have := (rv_c I0 J88 (I0.up h_o0) (k := 19) rfl)
        have := (rv_c I0 J88 (I0.up h_o0) (k := 22) rfl)
        have E95 : rE M0 M85 o0 0 0 := yE0.same (rE_hv I0 J88 (I0.up h_o0) 15 19 (by decide)) (rE_ha I0 J88 (I0.up h_o0) (by decide))
        have q96 := J88.keep h_o0 (by decide) q2
        have q97 := J88.keep h_o0 (by decide) q5
        refine mv_istore_n (lv' := [(1, .int v91), (0, .ref o0)]) d_TrustDeskModel_factor_43 rfl (by decide) rfl ?_
        refine mv_iload_n d_TrustDeskModel_factor_44 rfl rfl ?_
        refine mv_iconst (v := (-1)) d_TrustDeskModel_factor_45 (by decide) ?_
        have := mz_hi v91
        refine mv_icmp_neZ (tgt := 54) (a := v91.toInt) (b := (-1)) d_TrustDeskModel_factor_46 (by decide) rfl (by decide) (fun b98 => ?_) (fun b98 => ?_)
        · refine mv_aload_n d_TrustDeskModel_factor_54 rfl rfl ?_
          refine mv_sipush (v := 10000) d_TrustDeskModel_factor_55 (by decide) ?_
          refine mv_iload_n d_TrustDeskModel_factor_58 rfl rfl ?_
          refine mv_iadd d_TrustDeskModel_factor_59 ?_
          obtain ⟨_, b105, -⟩ := I89.1 _ _ t94
          have b106 : (10000 + v91 : Int32).toInt = (10000 + v91.toInt) := mz_add2 (by decide) rfl (by have := R92.1 15 _ _ rfl; have := R92.1 16 _ _ rfl; have := R92.1 19 _ _ rfl; have := E95.f yS; omega) (by have := R92.1 15 _ _ rfl; have := R92.1 16 _ _ rfl; have := R92.1 19 _ _ rfl; have := E95.f yS; omega)
          refine mv_callV (kc' := 0) (ks' := 0) (As := [.int (10000 + v91)]) (st9 := [.int (10000 + v91), .ref o0]) d_TrustDeskModel_factor_60 lV_TrustDeskModel_279 b105 rfl (tc_TrustDeskModel_emits_x (d := (d + 13)) (x9 := x9) (o0 := o0) (x1 := (10000 + v91)) t94 R92 (by have := R92.1 15 _ _ rfl; have := R92.1 16 _ _ rfl; have := R92.1 19 _ _ rfl; have := E95.f yS; omega) (by have := R92.1 15 _ _ rfl; have := R92.1 16 _ _ rfl; have := R92.1 19 _ _ rfl; have := E95.f yS; omega) I89.start) rfl (Nat.le_of_ble_eq_true rfl) (Nat.le_of_ble_eq_true rfl) (Nat.le_of_ble_eq_true rfl) (hst := rfl) (fun b99r M100 n101 b99 => ?_)
          obtain ⟨T102, J103, rfl, R107, f108⟩ := b99
          have I104 := I89.call J103 (tm_sub (by decide)) (Or.inl rfl)
          have t109 := J103.up t94
          have := (rv_c I89 J103 (I89.up h_o0) (k := 16) rfl)
          have := (rv_c I89 J103 (I89.up h_o0) (k := 17) rfl)
          have := (rv_c I89 J103 (I89.up h_o0) (k := 19) rfl)
          have := (rv_c I89 J103 (I89.up h_o0) (k := 22) rfl)
          have E110 : rE M0 M100 o0 1 (-1) := E95.emit f108 (rE_hv I89 J103 (I89.up h_o0) 15 19 (by decide)) (yR.2 5 _ _ rfl 44).1 (by decide) (Or.inl ⟨by have := R92.1 15 _ _ rfl; have := R92.1 16 _ _ rfl; have := R92.1 19 _ _ rfl; have := E95.f yS; omega, by decide⟩) (by decide)
          have q111 := J103.keep t94 (by decide) q96
          have q112 := J103.keep t94 (by decide) q97
          refine mv_aload_n d_TrustDeskModel_factor_63 rfl rfl ?_
          obtain ⟨_, b113, -⟩ := I104.1 _ _ t109
          refine mv_callV (kc1 := 0) (ks1 := 0) (kc' := 0) (ks' := 0) (As := []) (st9 := [.ref o0]) d_TrustDeskModel_factor_64 lV_TrustDeskModel_230 b113 rfl (mj_enter (by decide) (Nat.le_of_ble_eq_true rfl) ?_) rfl (Nat.le_of_ble_eq_true rfl) (Nat.le_of_ble_eq_true rfl) (Nat.le_of_ble_eq_true rfl) (hst := rfl) (fun _ _ _ h => h)
          refine mv_aload_n d_TrustDeskModel_isWell_0 rfl rfl ?_
          refine tr_getK (k := 19) q111 d_TrustDeskModel_isWell_1 f_TrustDeskModel_224_13 ?_
          have := mz_hi v3
          refine mv_if_neZ (tgt := 11) (a := v3.toInt) d_TrustDeskModel_isWell_4 (by decide) rfl (fun b114 => absurd b114 (by omega)) (fun b114 => ?_)
          refine mv_iconst (v := 1) d_TrustDeskModel_isWell_7 (by decide) ?_
          refine mv_goto (tgt := 12) d_TrustDeskModel_isWell_8 (by decide) ?_
          refine mv_iret d_TrustDeskModel_isWell_12 rfl (by decide) ?_
          refine mv_if_eq_f (tgt := 74) d_TrustDeskModel_factor_67 (by decide) (by decide) ?_
          refine mv_aload_n d_TrustDeskModel_factor_70 rfl rfl ?_
          obtain ⟨_, b121, -⟩ := I104.1 _ _ t109
          refine mv_callV (kc' := 0) (ks' := 0) (As := []) (st9 := [.ref o0]) d_TrustDeskModel_factor_71 lV_TrustDeskModel_237 b121 rfl (tc_TrustDeskModel_next_x (d := (d + 13)) (x9 := x9) (o0 := o0) t109 R107 I104.start) rfl (Nat.le_of_ble_eq_true rfl) (Nat.le_of_ble_eq_true rfl) (Nat.le_of_ble_eq_true rfl) (hst := rfl) (fun b115r M116 n117 b115 => ?_)
          obtain ⟨T118, J119, rfl, R122, f123, f124⟩ := b115
          have I120 := I104.call J119 (tm_sub (by decide)) (Or.inl rfl)
          have t125 := J119.up t109
          have := (rv_c I104 J119 (I104.up h_o0) (k := 19) rfl)
          have := (rv_c I104 J119 (I104.up h_o0) (k := 22) rfl)
          have h127 : rv M100 o0 16 + 1 ≤ rv M100 o0 15 := (by have := R107.1 15 _ _ rfl; have := R107.1 16 _ _ rfl; have := R107.1 19 _ _ rfl; have := E110.f yS; omega)
          have E126 : rE M0 M116 o0 1 0 := E110.next f123 f124 (rv_c I104 J119 (I104.up h_o0) (k := 19) rfl) (rE_ha I104 J119 (I104.up h_o0) (by decide)) (e := 1) h127 (by decide)
          have q128 := J119.keep t109 (by decide) q111
          refine mv_goto (tgt := 118) d_TrustDeskModel_factor_74 (by decide) ?_
          exact mv_vret d_TrustDeskModel_factor_118 rfl ⟨_, I120, rfl, R122, E126, (by have := R122.1 15 _ _ rfl; have := R122.1 16 _ _ rfl; have := R122.1 19 _ _ rfl; have := E126.f yS; omega)⟩
        · refine mv_aload_n d_TrustDeskModel_factor_49 rfl rfl ?_
          refine mv_iconst (v := 3) d_TrustDeskModel_factor_50 (by decide) ?_
          obtain ⟨_, b135, -⟩ := I89.1 _ _ t94
          refine mv_callV (kc' := 0) (ks' := 0) (As := [.int 3]) (st9 := [.int 3, .ref o0]) d_TrustDeskModel_factor_51 lV_TrustDeskModel_240 b135 rfl (tc_TrustDeskModel_fails_x (d := (d + 14)) (x9 := x9) (o0 := o0) (x1 := 3) t94 R92 (by decide) I89.start) rfl (Nat.le_of_ble_eq_true rfl) (Nat.le_of_ble_eq_true rfl) (Nat.le_of_ble_eq_true rfl) (hst := rfl) (fun b129r M130 n131 b129 => ?_)
          obtain ⟨T132, J133, rfl, R136, f137⟩ := b129
          have I134 := I89.call J133 (tm_sub (by decide)) (Or.inl rfl)
          have t138 := J133.up t94
          have := (rv_c I89 J133 (I89.up h_o0) (k := 16) rfl)
          have := (rv_c I89 J133 (I89.up h_o0) (k := 17) rfl)
          have := (rv_c I89 J133 (I89.up h_o0) (k := 22) rfl)
          have E139 : rE M0 M130 o0 0 0 := E95.fails (rE_hv I89 J133 (I89.up h_o0) 15 18 (by decide)) (rE_ha I89 J133 (I89.up h_o0) (by decide)) f137 0 0
          have q140 := J133.keep t94 (by decide) q97
          refine mv_aload_n d_TrustDeskModel_factor_54 rfl rfl ?_
          refine mv_sipush (v := 10000) d_TrustDeskModel_factor_55 (by decide) ?_
          refine mv_iload_n d_TrustDeskModel_factor_58 rfl rfl ?_
          refine mv_iadd d_TrustDeskModel_factor_59 ?_
          obtain ⟨_, b147, -⟩ := I134.1 _ _ t138
          have b148 : (10000 + v91 : Int32).toInt = (10000 + v91.toInt) := mz_add2 (by decide) rfl (by have := R136.1 15 _ _ rfl; have := R136.1 16 _ _ rfl; have := R136.1 19 _ _ rfl; have := E139.f yS; omega) (by have := R136.1 15 _ _ rfl; have := R136.1 16 _ _ rfl; have := R136.1 19 _ _ rfl; have := E139.f yS; omega)
          refine mv_callV (kc' := 0) (ks' := 0) (As := [.int (10000 + v91)]) (st9 := [.int (10000 + v91), .ref o0]) d_TrustDeskModel_factor_60 lV_TrustDeskModel_279 b147 rfl (tc_TrustDeskModel_emits_x (d := (d + 13)) (x9 := x9) (o0 := o0) (x1 := (10000 + v91)) t138 R136 (by have := R136.1 15 _ _ rfl; have := R136.1 16 _ _ rfl; have := R136.1 19 _ _ rfl; have := E139.f yS; omega) (by have := R136.1 15 _ _ rfl; have := R136.1 16 _ _ rfl; have := R136.1 19 _ _ rfl; have := E139.f yS; omega) I134.start) rfl (Nat.le_of_ble_eq_true rfl) (Nat.le_of_ble_eq_true rfl) (Nat.le_of_ble_eq_true rfl) (hst := rfl) (fun b141r M142 n143 b141 => ?_)
          obtain ⟨T144, J145, rfl, R149, f150⟩ := b141
          have I146 := I134.call J145 (tm_sub (by decide)) (Or.inl rfl)
          have t151 := J145.up t138
          have := (rv_c I134 J145 (I134.up h_o0) (k := 16) rfl)
          have := (rv_c I134 J145 (I134.up h_o0) (k := 17) rfl)
          have := (rv_c I134 J145 (I134.up h_o0) (k := 19) rfl)
          have := (rv_c I134 J145 (I134.up h_o0) (k := 22) rfl)
          have E152 : rE M0 M142 o0 1 (-1) := E139.emit f150 (rE_hv I134 J145 (I134.up h_o0) 15 19 (by decide)) (yR.2 5 _ _ rfl 44).1 (by decide) (Or.inl ⟨by have := R136.1 15 _ _ rfl; have := R136.1 16 _ _ rfl; have := R136.1 19 _ _ rfl; have := E139.f yS; omega, by decide⟩) (by decide)
          have q153 := J145.keep t138 (by decide) q140
          refine mv_aload_n d_TrustDeskModel_factor_63 rfl rfl ?_
          obtain ⟨_, b154, -⟩ := I146.1 _ _ t151
          refine mv_callV (kc1 := 0) (ks1 := 0) (kc' := 0) (ks' := 0) (As := []) (st9 := [.ref o0]) d_TrustDeskModel_factor_64 lV_TrustDeskModel_230 b154 rfl (mj_enter (by decide) (Nat.le_of_ble_eq_true rfl) ?_) rfl (Nat.le_of_ble_eq_true rfl) (Nat.le_of_ble_eq_true rfl) (Nat.le_of_ble_eq_true rfl) (hst := rfl) (fun _ _ _ h => h)
          refine mv_aload_n d_TrustDeskModel_isWell_0 rfl rfl ?_
          obtain ⟨v156, q155⟩ := tm_atI I146 t151 (k := 19) rfl
          refine tr_getK q155 d_TrustDeskModel_isWell_1 f_TrustDeskModel_224_13 ?_
          have := R149.f (k := 19) q155 rfl
          have := tm_rv q155
          have := mz_hi v156
          refine mv_if_neZ (tgt := 11) (a := v156.toInt) d_TrustDeskModel_isWell_4 (by decide) rfl (fun b157 => ?_) (fun b157 => ?_)
          · refine mv_iconst (v := 0) d_TrustDeskModel_isWell_11 (by decide) ?_
            refine mv_iret d_TrustDeskModel_isWell_12 rfl (by decide) ?_
            refine mv_if_eq_t (tgt := 74) d_TrustDeskModel_factor_67 (by decide) (by decide) ?_
            refine mv_goto (tgt := 118) d_TrustDeskModel_factor_74 (by decide) ?_
            exact mv_vret d_TrustDeskModel_factor_118 rfl ⟨_, I146, rfl, R149, E152.vac (by have := R149.1 15 _ _ rfl; have := R149.1 16 _ _ rfl; have := R149.1 19 _ _ rfl; have := E152.f yS; omega) 1 0, (by have := R149.1 15 _ _ rfl; have := R149.1 16 _ _ rfl; have := R149.1 19 _ _ rfl; have := E152.f yS; omega)⟩
          · refine mv_iconst (v := 1) d_TrustDeskModel_isWell_7 (by decide) ?_
            refine mv_goto (tgt := 12) d_TrustDeskModel_isWell_8 (by decide) ?_
            refine mv_iret d_TrustDeskModel_isWell_12 rfl (by decide) ?_
            refine mv_if_eq_f (tgt := 74) d_TrustDeskModel_factor_67 (by decide) (by decide) ?_
            refine mv_aload_n d_TrustDeskModel_factor_70 rfl rfl ?_
            obtain ⟨_, b164, -⟩ := I146.1 _ _ t151
            refine mv_callV (kc' := 0) (ks' := 0) (As := []) (st9 := [.ref o0]) d_TrustDeskModel_factor_71 lV_TrustDeskModel_237 b164 rfl (tc_TrustDeskModel_next_x (d := (d + 13)) (x9 := x9) (o0 := o0) t151 R149 I146.start) rfl (Nat.le_of_ble_eq_true rfl) (Nat.le_of_ble_eq_true rfl) (Nat.le_of_ble_eq_true rfl) (hst := rfl) (fun b158r M159 n160 b158 => ?_)
            obtain ⟨T161, J162, rfl, R165, f166, f167⟩ := b158
            have I163 := I146.call J162 (tm_sub (by decide)) (Or.inl rfl)
            have t168 := J162.up t151
            have := (rv_c I146 J162 (I146.up h_o0) (k := 19) rfl)
            have := (rv_c I146 J162 (I146.up h_o0) (k := 22) rfl)
            have h170 : rv M142 o0 16 + 1 ≤ rv M142 o0 15 := (by have := R149.1 15 _ _ rfl; have := R149.1 16 _ _ rfl; have := R149.1 19 _ _ rfl; have := E152.f yS; omega)
            have E169 : rE M0 M159 o0 1 0 := E152.next f166 f167 (rv_c I146 J162 (I146.up h_o0) (k := 19) rfl) (rE_ha I146 J162 (I146.up h_o0) (by decide)) (e := 1) h170 (by decide)
            have q171 := J162.keep t151 (by decide) q155
            refine mv_goto (tgt := 118) d_TrustDeskModel_factor_74 (by decide) ?_
            exact mv_vret d_TrustDeskModel_factor_118 rfl ⟨_, I163, rfl, R165, E169, (by have := R165.1 15 _ _ rfl; have := R165.1 16 _ _ rfl; have := R165.1 19 _ _ rfl; have := E169.f yS; omega)⟩
    · refine mv_aload_n d_TrustDeskModel_factor_16 rfl rfl ?_
      refine mv_aload_n d_TrustDeskModel_factor_17 rfl rfl ?_
      obtain ⟨v173, q172⟩ := tm_atI I0 h_o0 (k := 18) rfl
      refine tr_getK q172 d_TrustDeskModel_factor_18 f_TrustDeskModel_201_13 ?_
      have := yR.f (k := 18) q172 rfl
      have := tm_rv q172
      obtain ⟨_, b180, -⟩ := I0.1 _ _ h_o0
      refine mv_callV (kc' := 0) (ks' := 0) (As := [.int v173]) (st9 := [.int v173, .ref o0]) d_TrustDeskModel_factor_21 lV_TrustDeskModel_279 b180 rfl (tc_TrustDeskModel_emits_x (d := (d + 13)) (x9 := x9) (o0 := o0) (x1 := v173) h_o0 yR (by have := yR.1 15 _ _ rfl; have := yR.1 16 _ _ rfl; have := yR.1 19 _ _ rfl; have := yE0.f yS; omega) (by have := yR.1 15 _ _ rfl; have := yR.1 16 _ _ rfl; have := yR.1 19 _ _ rfl; have := yE0.f yS; omega) I0.start) rfl (Nat.le_of_ble_eq_true rfl) (Nat.le_of_ble_eq_true rfl) (Nat.le_of_ble_eq_true rfl) (hst := rfl) (fun b174r M175 n176 b174 => ?_)
      obtain ⟨T177, J178, rfl, R181, f182⟩ := b174
      have I179 := I0.call J178 (tm_sub (by decide)) (Or.inl rfl)
      have t183 := J178.up h_o0
      have := (rv_c I0 J178 (I0.up h_o0) (k := 16) rfl)
      have := (rv_c I0 J178 (I0.up h_o0) (k := 17) rfl)
      have := (rv_c I0 J178 (I0.up h_o0) (k := 19) rfl)
      have := (rv_c I0 J178 (I0.up h_o0) (k := 22) rfl)
      have E184 : rE M0 M175 o0 1 (-1) := yE0.emit f182 (rE_hv I0 J178 (I0.up h_o0) 15 19 (by decide)) (yR.2 5 _ _ rfl 44).1 (by decide) (Or.inl ⟨by have := yR.1 15 _ _ rfl; have := yR.1 16 _ _ rfl; have := yR.1 19 _ _ rfl; have := yE0.f yS; omega, by decide⟩) (by decide)
      have q185 := J178.keep h_o0 (by decide) q2
      have q186 := J178.keep h_o0 (by decide) q5
      have q187 := J178.keep h_o0 (by decide) q172
      refine mv_aload_n d_TrustDeskModel_factor_24 rfl rfl ?_
      obtain ⟨_, b194, -⟩ := I179.1 _ _ t183
      refine mv_callV (kc' := 0) (ks' := 0) (As := []) (st9 := [.ref o0]) d_TrustDeskModel_factor_25 lV_TrustDeskModel_237 b194 rfl (tc_TrustDeskModel_next_x (d := (d + 13)) (x9 := x9) (o0 := o0) t183 R181 I179.start) rfl (Nat.le_of_ble_eq_true rfl) (Nat.le_of_ble_eq_true rfl) (Nat.le_of_ble_eq_true rfl) (hst := rfl) (fun b188r M189 n190 b188 => ?_)
      obtain ⟨T191, J192, rfl, R195, f196, f197⟩ := b188
      have I193 := I179.call J192 (tm_sub (by decide)) (Or.inl rfl)
      have t198 := J192.up t183
      have := (rv_c I179 J192 (I179.up h_o0) (k := 19) rfl)
      have := (rv_c I179 J192 (I179.up h_o0) (k := 22) rfl)
      have h200 : rv M175 o0 16 + 1 ≤ rv M175 o0 15 := (by have := R181.1 15 _ _ rfl; have := R181.1 16 _ _ rfl; have := R181.1 19 _ _ rfl; have := E184.f yS; omega)
      have E199 : rE M0 M189 o0 1 0 := E184.next f196 f197 (rv_c I179 J192 (I179.up h_o0) (k := 19) rfl) (rE_ha I179 J192 (I179.up h_o0) (by decide)) (e := 1) h200 (by decide)
      have q201 := J192.keep t183 (by decide) q185
      refine mv_goto (tgt := 118) d_TrustDeskModel_factor_28 (by decide) ?_
      exact mv_vret d_TrustDeskModel_factor_118 rfl ⟨_, I193, rfl, R195, E199, (by have := R195.1 15 _ _ rfl; have := R195.1 16 _ _ rfl; have := R195.1 19 _ _ rfl; have := E199.f yS; omega)⟩
def w_TrustDeskModel_product_q4_x : List Nat := [1315, 1316, 1317, 1318, 1319, 1320, 1322, 20004, 20005]
theorem tc_TrustDeskModel_product_q4_x {g : mj_G} {l : Launch} {d : Nat} {T0 : tm_H} {M0 : mj_M} {n0 x9 : Nat} {o0 : Nat} (h_o0 : T0 o0 = some (0, 13, 0)) (yR : rI M0 o0) (yT : rT M0 o0) (yS : rv M0 o0 19 = 0 → ra M0 o0 5 44 ≤ rv M0 o0 16) (yL : rv M0 o0 19 ≠ 0 ∨ (1 ≤ rv M0 o0 22 ∧ rv M0 o0 22 ≤ 4)) (I0 : tm_I tm_FT (tm_in w_TrustDeskModel_product_q4_x) x9 T0 M0 n0 T0 M0 n0) : mj_Met g l kY_TrustDeskModel_product (d + 16) [.ref o0] M0 n0 0 0 (tm_Q tm_FT (tm_in w_TrustDeskModel_product_q4_x) x9 T0 M0 n0 (fun r _ M => r = none ∧ rI M o0 ∧ (rE M0 M o0 1 0) ∧ (rv M o0 19 = 0 → rv M o0 22 = rv M0 o0 22))) := by
  refine mj_enter (by decide) (Nat.le_of_ble_eq_true rfl) ?_
  have yE0 := rE.rf yT
  refine mv_aload_n d_TrustDeskModel_product_0 rfl rfl ?_
  obtain ⟨_, b7, -⟩ := I0.1 _ _ h_o0
  refine mv_callV (kc' := 0) (ks' := 0) (As := []) (st9 := [.ref o0]) d_TrustDeskModel_product_1 lV_TrustDeskModel_294 b7 rfl (tc_TrustDeskModel_factor_q4_x (d := d) (x9 := x9) (o0 := o0) h_o0 yR yE0.1 (by have := yR.1 15 _ _ rfl; have := yR.1 16 _ _ rfl; have := yR.1 19 _ _ rfl; have := yE0.f yS; omega) (by have := yR.1 15 _ _ rfl; have := yR.1 16 _ _ rfl; have := yR.1 19 _ _ rfl; have := yE0.f yS; omega) I0.start) rfl (Nat.le_of_ble_eq_true rfl) (Nat.le_of_ble_eq_true rfl) (Nat.le_of_ble_eq_true rfl) (hst := rfl) (fun b1r M2 n3 b1 => ?_)
  obtain ⟨T4, J5, rfl, R8, f9, f10⟩ := b1
  have I6 := I0.call J5 (tm_sub (by decide)) (Or.inl rfl)
  have t11 := J5.up h_o0
  have E12 : rE M0 M2 o0 1 0 := yE0.trans f9 (by decide) (yR.2 5 _ _ rfl 44).1 (by decide) (by decide)
  have := f9.w
  have L4_13 : ∀ (k : Nat) (T_13 : tm_H) (M_13 : mj_M) (n_13 : Nat), tm_I tm_FT (tm_in w_TrustDeskModel_product_q4_x) x9 T0 M0 n0 T_13 M_13 n_13 → T_13 o0 = some (0, 13, 0) → (rv M_13 o0 19 = 0 → rv M_13 o0 22 = rv M0 o0 22) → (rI M_13 o0) → (rE M0 M_13 o0 1 0) → 5 * (401 - rv M_13 o0 16) - rv M_13 o0 19 < (k : Int) → mj_V g l kY_TrustDeskModel_product (d + 16) 4 [(0, .ref o0)] [] M_13 n_13 0 0 (tm_Q tm_FT (tm_in w_TrustDeskModel_product_q4_x) x9 T0 M0 n0 (fun r _ M => r = none ∧ rI M o0 ∧ (rE M0 M o0 1 0) ∧ (rv M o0 19 = 0 → rv M o0 22 = rv M0 o0 22))) := by
    intro k13
    induction k13 with
    | zero =>
      intro T_13 M_13 n_13 I_13 h_q0_13 iv0_13 kKR_13 kKE_13 hk13
      have := kKR_13.1 15 _ _ rfl
      have := kKR_13.1 16 _ _ rfl
      have := kKR_13.1 19 _ _ rfl
      exfalso; omega
    | succ k13 ih13 =>
      intro T_13 M_13 n_13 I_13 h_q0_13 iv0_13 kKR_13 kKE_13 hk13
      have := kKE_13.f yS
      refine mv_aload_n d_TrustDeskModel_product_4 rfl rfl ?_
      obtain ⟨_, b14, -⟩ := I_13.1 _ _ h_q0_13
      refine mv_callV (kc1 := 0) (ks1 := 0) (kc' := 0) (ks' := 0) (As := []) (st9 := [.ref o0]) d_TrustDeskModel_product_5 lV_TrustDeskModel_230 b14 rfl (mj_enter (by decide) (Nat.le_of_ble_eq_true rfl) ?_) rfl (Nat.le_of_ble_eq_true rfl) (Nat.le_of_ble_eq_true rfl) (Nat.le_of_ble_eq_true rfl) (hst := rfl) (fun _ _ _ h => h)
      refine mv_aload_n d_TrustDeskModel_isWell_0 rfl rfl ?_
      obtain ⟨v16, q15⟩ := tm_atI I_13 h_q0_13 (k := 19) rfl
      refine tr_getK q15 d_TrustDeskModel_isWell_1 f_TrustDeskModel_224_13 ?_
      have := kKR_13.f (k := 19) q15 rfl
      have := tm_rv q15
      have := mz_hi v16
      refine mv_if_neZ (tgt := 11) (a := v16.toInt) d_TrustDeskModel_isWell_4 (by decide) rfl (fun b17 => ?_) (fun b17 => ?_)
      · refine mv_iconst (v := 0) d_TrustDeskModel_isWell_11 (by decide) ?_
        refine mv_iret d_TrustDeskModel_isWell_12 rfl (by decide) ?_
        refine mv_if_eq_t (tgt := 37) d_TrustDeskModel_product_8 (by decide) (by decide) ?_
        exact mv_vret d_TrustDeskModel_product_37 rfl ⟨_, I_13, rfl, kKR_13, kKE_13, (by have := kKR_13.1 15 _ _ rfl; have := kKR_13.1 16 _ _ rfl; have := kKR_13.1 19 _ _ rfl; have := kKE_13.f yS; omega)⟩
      · refine mv_iconst (v := 1) d_TrustDeskModel_isWell_7 (by decide) ?_
        refine mv_goto (tgt := 12) d_TrustDeskModel_isWell_8 (by decide) ?_
        refine mv_iret d_TrustDeskModel_isWell_12 rfl (by decide) ?_
        refine mv_if_eq_f (tgt := 37) d_TrustDeskModel_product_8 (by decide) (by decide) ?_
        refine mv_aload_n d_TrustDeskModel_product_11 rfl rfl ?_
        refine mv_bipush (v := 42) d_TrustDeskModel_product_12 (by decide) ?_
        obtain ⟨_, b18, -⟩ := I_13.1 _ _ h_q0_13
        refine mv_callV (kc1 := 0) (ks1 := 0) (kc' := 0) (ks' := 0) (As := [.int 42]) (st9 := [.int 42, .ref o0]) d_TrustDeskModel_product_14 lV_TrustDeskModel_234 b18 rfl (mj_enter (by decide) (Nat.le_of_ble_eq_true rfl) ?_) rfl (Nat.le_of_ble_eq_true rfl) (Nat.le_of_ble_eq_true rfl) (Nat.le_of_ble_eq_true rfl) (hst := rfl) (fun _ _ _ h => h)
        refine mv_aload_n d_TrustDeskModel_isSign_0 rfl rfl ?_
        obtain ⟨v20, q19⟩ := tm_atI I_13 h_q0_13 (k := 17) rfl
        refine tr_getK q19 d_TrustDeskModel_isSign_1 f_TrustDeskModel_198_13 ?_
        have := tm_rv q19
        refine mv_iconst (v := 4) d_TrustDeskModel_isSign_4 (by decide) ?_
        have := mz_hi v20
        refine mv_icmp_neZ (tgt := 20) (a := v20.toInt) (b := 4) d_TrustDeskModel_isSign_5 (by decide) rfl (by decide) (fun b21 => ?_) (fun b21 => ?_)
        · refine mv_iconst (v := 0) d_TrustDeskModel_isSign_20 (by decide) ?_
          refine mv_iret d_TrustDeskModel_isSign_21 rfl (by decide) ?_
          refine mv_if_eq_t (tgt := 37) d_TrustDeskModel_product_17 (by decide) (by decide) ?_
          exact mv_vret d_TrustDeskModel_product_37 rfl ⟨_, I_13, rfl, kKR_13, kKE_13, (by have := kKR_13.1 15 _ _ rfl; have := kKR_13.1 16 _ _ rfl; have := kKR_13.1 19 _ _ rfl; have := kKE_13.f yS; omega)⟩
        · refine mv_aload_n d_TrustDeskModel_isSign_8 rfl rfl ?_
          obtain ⟨v23, q22⟩ := tm_atI I_13 h_q0_13 (k := 18) rfl
          refine tr_getK q22 d_TrustDeskModel_isSign_9 f_TrustDeskModel_201_13 ?_
          have := kKR_13.f (k := 18) q22 rfl
          have := tm_rv q22
          refine mv_iload_n d_TrustDeskModel_isSign_12 rfl rfl ?_
          have := mz_hi v23
          refine mv_icmp_neZ (tgt := 20) (a := v23.toInt) (b := 42) d_TrustDeskModel_isSign_13 (by decide) rfl (by decide) (fun b24 => ?_) (fun b24 => ?_)
          · refine mv_iconst (v := 0) d_TrustDeskModel_isSign_20 (by decide) ?_
            refine mv_iret d_TrustDeskModel_isSign_21 rfl (by decide) ?_
            refine mv_if_eq_t (tgt := 37) d_TrustDeskModel_product_17 (by decide) (by decide) ?_
            exact mv_vret d_TrustDeskModel_product_37 rfl ⟨_, I_13, rfl, kKR_13, kKE_13, (by have := kKR_13.1 15 _ _ rfl; have := kKR_13.1 16 _ _ rfl; have := kKR_13.1 19 _ _ rfl; have := kKE_13.f yS; omega)⟩
          · refine mv_iconst (v := 1) d_TrustDeskModel_isSign_16 (by decide) ?_
            refine mv_goto (tgt := 21) d_TrustDeskModel_isSign_17 (by decide) ?_
            refine mv_iret d_TrustDeskModel_isSign_21 rfl (by decide) ?_
            refine mv_if_eq_f (tgt := 37) d_TrustDeskModel_product_17 (by decide) (by decide) ?_
            refine mv_aload_n d_TrustDeskModel_product_20 rfl rfl ?_
            obtain ⟨_, b31, -⟩ := I_13.1 _ _ h_q0_13
            refine mv_callV (kc' := 0) (ks' := 0) (As := []) (st9 := [.ref o0]) d_TrustDeskModel_product_21 lV_TrustDeskModel_237 b31 rfl (tc_TrustDeskModel_next_x (d := (d + 14)) (x9 := x9) (o0 := o0) h_q0_13 kKR_13 I_13.start) rfl (Nat.le_of_ble_eq_true rfl) (Nat.le_of_ble_eq_true rfl) (Nat.le_of_ble_eq_true rfl) (hst := rfl) (fun b25r M26 n27 b25 => ?_)
            obtain ⟨T28, J29, rfl, R32, f33, f34⟩ := b25
            have I30 := I_13.call J29 (tm_sub (by decide)) (Or.inl rfl)
            have t35 := J29.up h_q0_13
            have := (rv_c I_13 J29 (I_13.up h_o0) (k := 19) rfl)
            have := (rv_c I_13 J29 (I_13.up h_o0) (k := 22) rfl)
            have h37 : rv M_13 o0 16 + 1 ≤ rv M_13 o0 15 := (by have := kKR_13.1 15 _ _ rfl; have := kKR_13.1 16 _ _ rfl; have := kKR_13.1 19 _ _ rfl; have := kKE_13.f yS; omega)
            have E36 : rE M0 M26 o0 1 1 := kKE_13.next f33 f34 (rv_c I_13 J29 (I_13.up h_o0) (k := 19) rfl) (rE_ha I_13 J29 (I_13.up h_o0) (by decide)) (e := 1) h37 (by decide)
            have q38 := J29.keep h_q0_13 (by decide) q15
            refine mv_aload_n d_TrustDeskModel_product_24 rfl rfl ?_
            obtain ⟨_, b45, -⟩ := I30.1 _ _ t35
            refine mv_callV (kc' := 0) (ks' := 0) (As := []) (st9 := [.ref o0]) d_TrustDeskModel_product_25 lV_TrustDeskModel_294 b45 rfl (tc_TrustDeskModel_factor_q4_x (d := d) (x9 := x9) (o0 := o0) t35 R32 E36.1 (by have := R32.1 15 _ _ rfl; have := R32.1 16 _ _ rfl; have := R32.1 19 _ _ rfl; have := E36.f yS; omega) (by have := R32.1 15 _ _ rfl; have := R32.1 16 _ _ rfl; have := R32.1 19 _ _ rfl; have := E36.f yS; omega) I30.start) rfl (Nat.le_of_ble_eq_true rfl) (Nat.le_of_ble_eq_true rfl) (Nat.le_of_ble_eq_true rfl) (hst := rfl) (fun b39r M40 n41 b39 => ?_)
            obtain ⟨T42, J43, rfl, R46, f47, f48⟩ := b39
            have I44 := I30.call J43 (tm_sub (by decide)) (Or.inl rfl)
            have t49 := J43.up t35
            have E50 : rE M0 M40 o0 2 1 := E36.trans f47 (by decide) (yR.2 5 _ _ rfl 44).1 (by decide) (by decide)
            have := f47.w
            refine mv_aload_n d_TrustDeskModel_product_28 rfl rfl ?_
            refine mv_bipush (v := (-3)) d_TrustDeskModel_product_29 (by decide) ?_
            obtain ⟨_, b57, -⟩ := I44.1 _ _ t49
            refine mv_callV (kc' := 0) (ks' := 0) (As := [.int (-3)]) (st9 := [.int (-3), .ref o0]) d_TrustDeskModel_product_31 lV_TrustDeskModel_279 b57 rfl (tc_TrustDeskModel_emits_x (d := (d + 14)) (x9 := x9) (o0 := o0) (x1 := (-3)) t49 R46 (by have := R46.1 15 _ _ rfl; have := R46.1 16 _ _ rfl; have := R46.1 19 _ _ rfl; have := E50.f yS; omega) (by decide) I44.start) rfl (Nat.le_of_ble_eq_true rfl) (Nat.le_of_ble_eq_true rfl) (Nat.le_of_ble_eq_true rfl) (hst := rfl) (fun b51r M52 n53 b51 => ?_)
            obtain ⟨T54, J55, rfl, R58, f59⟩ := b51
            have I56 := I44.call J55 (tm_sub (by decide)) (Or.inl rfl)
            have t60 := J55.up t49
            have := (rv_c I44 J55 (I44.up h_o0) (k := 16) rfl)
            have := (rv_c I44 J55 (I44.up h_o0) (k := 17) rfl)
            have := (rv_c I44 J55 (I44.up h_o0) (k := 19) rfl)
            have := (rv_c I44 J55 (I44.up h_o0) (k := 22) rfl)
            have E61 : rE M0 M52 o0 1 0 := E50.emit f59 (rE_hv I44 J55 (I44.up h_o0) 15 19 (by decide)) (yR.2 5 _ _ rfl 44).1 (by decide) (Or.inr (Or.inr ⟨by decide, by decide, by decide, by decide⟩)) (by decide)
            refine mv_goto (tgt := 4) d_TrustDeskModel_product_34 (by decide) ?_
            exact (ih13 T54 M52 n53 I56 t60 (by have := R58.1 15 _ _ rfl; have := R58.1 16 _ _ rfl; have := R58.1 19 _ _ rfl; have := E61.f yS; first | omega | decide) R58 E61 (by have := R58.1 15 _ _ rfl; have := R58.1 16 _ _ rfl; have := R58.1 19 _ _ rfl; have := E61.f yS; omega))
  exact mv_less (Nat.zero_le _) (Nat.zero_le _) (L4_13 4294967296 T4 M2 n3 I6 t11 (by have := R8.1 15 _ _ rfl; have := R8.1 16 _ _ rfl; have := R8.1 19 _ _ rfl; have := E12.f yS; first | omega | decide) R8 E12 (by have := R8.1 15 _ _ rfl; have := R8.1 16 _ _ rfl; have := R8.1 19 _ _ rfl; have := E12.f yS; omega))
def w_TrustDeskModel_sum_q4_x : List Nat := [1315, 1316, 1317, 1318, 1319, 1320, 1322, 20004, 20005]
theorem tc_TrustDeskModel_sum_q4_x {g : mj_G} {l : Launch} {d : Nat} {T0 : tm_H} {M0 : mj_M} {n0 x9 : Nat} {o0 : Nat} (h_o0 : T0 o0 = some (0, 13, 0)) (yR : rI M0 o0) (yT : rT M0 o0) (yS : rv M0 o0 19 = 0 → ra M0 o0 5 44 ≤ rv M0 o0 16) (yL : rv M0 o0 19 ≠ 0 ∨ (1 ≤ rv M0 o0 22 ∧ rv M0 o0 22 ≤ 4)) (I0 : tm_I tm_FT (tm_in w_TrustDeskModel_sum_q4_x) x9 T0 M0 n0 T0 M0 n0) : mj_Met g l kY_TrustDeskModel_sum (d + 17) [.ref o0] M0 n0 0 0 (tm_Q tm_FT (tm_in w_TrustDeskModel_sum_q4_x) x9 T0 M0 n0 (fun r _ M => r = none ∧ rI M o0 ∧ (rE M0 M o0 1 0) ∧ (rv M o0 19 = 0 → rv M o0 22 = rv M0 o0 22))) := by
  refine mj_enter (by decide) (Nat.le_of_ble_eq_true rfl) ?_
  have yE0 := rE.rf yT
  refine mv_aload_n d_TrustDeskModel_sum_0 rfl rfl ?_
  obtain ⟨_, b7, -⟩ := I0.1 _ _ h_o0
  refine mv_callV (kc' := 0) (ks' := 0) (As := []) (st9 := [.ref o0]) d_TrustDeskModel_sum_1 lV_TrustDeskModel_297 b7 rfl (tc_TrustDeskModel_product_q4_x (d := d) (x9 := x9) (o0 := o0) h_o0 yR yE0.1 (by have := yR.1 15 _ _ rfl; have := yR.1 16 _ _ rfl; have := yR.1 19 _ _ rfl; have := yE0.f yS; omega) (by have := yR.1 15 _ _ rfl; have := yR.1 16 _ _ rfl; have := yR.1 19 _ _ rfl; have := yE0.f yS; omega) I0.start) rfl (Nat.le_of_ble_eq_true rfl) (Nat.le_of_ble_eq_true rfl) (Nat.le_of_ble_eq_true rfl) (hst := rfl) (fun b1r M2 n3 b1 => ?_)
  obtain ⟨T4, J5, rfl, R8, f9, f10⟩ := b1
  have I6 := I0.call J5 (tm_sub (by decide)) (Or.inl rfl)
  have t11 := J5.up h_o0
  have E12 : rE M0 M2 o0 1 0 := yE0.trans f9 (by decide) (yR.2 5 _ _ rfl 44).1 (by decide) (by decide)
  have := f9.w
  have L4_13 : ∀ (k : Nat) (T_13 : tm_H) (M_13 : mj_M) (n_13 : Nat), tm_I tm_FT (tm_in w_TrustDeskModel_sum_q4_x) x9 T0 M0 n0 T_13 M_13 n_13 → T_13 o0 = some (0, 13, 0) → (rv M_13 o0 19 = 0 → rv M_13 o0 22 = rv M0 o0 22) → (rI M_13 o0) → (rE M0 M_13 o0 1 0) → 5 * (401 - rv M_13 o0 16) - rv M_13 o0 19 < (k : Int) → mj_V g l kY_TrustDeskModel_sum (d + 17) 4 [(0, .ref o0)] [] M_13 n_13 0 0 (tm_Q tm_FT (tm_in w_TrustDeskModel_sum_q4_x) x9 T0 M0 n0 (fun r _ M => r = none ∧ rI M o0 ∧ (rE M0 M o0 1 0) ∧ (rv M o0 19 = 0 → rv M o0 22 = rv M0 o0 22))) := by
    intro k13
    induction k13 with
    | zero =>
      intro T_13 M_13 n_13 I_13 h_q0_13 iv0_13 kKR_13 kKE_13 hk13
      have := kKR_13.1 15 _ _ rfl
      have := kKR_13.1 16 _ _ rfl
      have := kKR_13.1 19 _ _ rfl
      exfalso; omega
    | succ k13 ih13 =>
      intro T_13 M_13 n_13 I_13 h_q0_13 iv0_13 kKR_13 kKE_13 hk13
      have := kKE_13.f yS
      refine mv_aload_n d_TrustDeskModel_sum_4 rfl rfl ?_
      obtain ⟨_, b14, -⟩ := I_13.1 _ _ h_q0_13
      refine mv_callV (kc1 := 0) (ks1 := 0) (kc' := 0) (ks' := 0) (As := []) (st9 := [.ref o0]) d_TrustDeskModel_sum_5 lV_TrustDeskModel_230 b14 rfl (mj_enter (by decide) (Nat.le_of_ble_eq_true rfl) ?_) rfl (Nat.le_of_ble_eq_true rfl) (Nat.le_of_ble_eq_true rfl) (Nat.le_of_ble_eq_true rfl) (hst := rfl) (fun _ _ _ h => h)
      refine mv_aload_n d_TrustDeskModel_isWell_0 rfl rfl ?_
      obtain ⟨v16, q15⟩ := tm_atI I_13 h_q0_13 (k := 19) rfl
      refine tr_getK q15 d_TrustDeskModel_isWell_1 f_TrustDeskModel_224_13 ?_
      have := kKR_13.f (k := 19) q15 rfl
      have := tm_rv q15
      have := mz_hi v16
      refine mv_if_neZ (tgt := 11) (a := v16.toInt) d_TrustDeskModel_isWell_4 (by decide) rfl (fun b17 => ?_) (fun b17 => ?_)
      · refine mv_iconst (v := 0) d_TrustDeskModel_isWell_11 (by decide) ?_
        refine mv_iret d_TrustDeskModel_isWell_12 rfl (by decide) ?_
        refine mv_if_eq_t (tgt := 61) d_TrustDeskModel_sum_8 (by decide) (by decide) ?_
        exact mv_vret d_TrustDeskModel_sum_61 rfl ⟨_, I_13, rfl, kKR_13, kKE_13, (by have := kKR_13.1 15 _ _ rfl; have := kKR_13.1 16 _ _ rfl; have := kKR_13.1 19 _ _ rfl; have := kKE_13.f yS; omega)⟩
      · refine mv_iconst (v := 1) d_TrustDeskModel_isWell_7 (by decide) ?_
        refine mv_goto (tgt := 12) d_TrustDeskModel_isWell_8 (by decide) ?_
        refine mv_iret d_TrustDeskModel_isWell_12 rfl (by decide) ?_
        refine mv_if_eq_f (tgt := 61) d_TrustDeskModel_sum_8 (by decide) (by decide) ?_
        refine mv_aload_n d_TrustDeskModel_sum_11 rfl rfl ?_
        refine mv_bipush (v := 43) d_TrustDeskModel_sum_12 (by decide) ?_
        obtain ⟨_, b18, -⟩ := I_13.1 _ _ h_q0_13
        refine mv_callV (kc1 := 0) (ks1 := 0) (kc' := 0) (ks' := 0) (As := [.int 43]) (st9 := [.int 43, .ref o0]) d_TrustDeskModel_sum_14 lV_TrustDeskModel_234 b18 rfl (mj_enter (by decide) (Nat.le_of_ble_eq_true rfl) ?_) rfl (Nat.le_of_ble_eq_true rfl) (Nat.le_of_ble_eq_true rfl) (Nat.le_of_ble_eq_true rfl) (hst := rfl) (fun _ _ _ h => h)
        refine mv_aload_n d_TrustDeskModel_isSign_0 rfl rfl ?_
        obtain ⟨v20, q19⟩ := tm_atI I_13 h_q0_13 (k := 17) rfl
        refine tr_getK q19 d_TrustDeskModel_isSign_1 f_TrustDeskModel_198_13 ?_
        have := tm_rv q19
        refine mv_iconst (v := 4) d_TrustDeskModel_isSign_4 (by decide) ?_
        have := mz_hi v20
        refine mv_icmp_neZ (tgt := 20) (a := v20.toInt) (b := 4) d_TrustDeskModel_isSign_5 (by decide) rfl (by decide) (fun b21 => ?_) (fun b21 => ?_)
        · refine mv_iconst (v := 0) d_TrustDeskModel_isSign_20 (by decide) ?_
          refine mv_iret d_TrustDeskModel_isSign_21 rfl (by decide) ?_
          refine mv_if_ne_f (tgt := 29) d_TrustDeskModel_sum_17 (by decide) (by decide) ?_
          refine mv_aload_n d_TrustDeskModel_sum_20 rfl rfl ?_
          refine mv_bipush (v := 45) d_TrustDeskModel_sum_21 (by decide) ?_
          obtain ⟨_, b22, -⟩ := I_13.1 _ _ h_q0_13
          refine mv_callV (kc1 := 0) (ks1 := 0) (kc' := 0) (ks' := 0) (As := [.int 45]) (st9 := [.int 45, .ref o0]) d_TrustDeskModel_sum_23 lV_TrustDeskModel_234 b22 rfl (mj_enter (by decide) (Nat.le_of_ble_eq_true rfl) ?_) rfl (Nat.le_of_ble_eq_true rfl) (Nat.le_of_ble_eq_true rfl) (Nat.le_of_ble_eq_true rfl) (hst := rfl) (fun _ _ _ h => h)
          refine mv_aload_n d_TrustDeskModel_isSign_0 rfl rfl ?_
          refine tr_getK (k := 17) q19 d_TrustDeskModel_isSign_1 f_TrustDeskModel_198_13 ?_
          refine mv_iconst (v := 4) d_TrustDeskModel_isSign_4 (by decide) ?_
          have := mz_hi v20
          refine mv_icmp_neZ (tgt := 20) (a := v20.toInt) (b := 4) d_TrustDeskModel_isSign_5 (by decide) rfl (by decide) (fun b23 => ?_) (fun b23 => ?_)
          · refine mv_iconst (v := 0) d_TrustDeskModel_isSign_20 (by decide) ?_
            refine mv_iret d_TrustDeskModel_isSign_21 rfl (by decide) ?_
            refine mv_if_eq_t (tgt := 61) d_TrustDeskModel_sum_26 (by decide) (by decide) ?_
            exact mv_vret d_TrustDeskModel_sum_61 rfl ⟨_, I_13, rfl, kKR_13, kKE_13, (by have := kKR_13.1 15 _ _ rfl; have := kKR_13.1 16 _ _ rfl; have := kKR_13.1 19 _ _ rfl; have := kKE_13.f yS; omega)⟩
          · refine mv_aload_n d_TrustDeskModel_isSign_8 rfl rfl ?_
            obtain ⟨v25, q24⟩ := tm_atI I_13 h_q0_13 (k := 18) rfl
            refine tr_getK q24 d_TrustDeskModel_isSign_9 f_TrustDeskModel_201_13 ?_
            have := kKR_13.f (k := 18) q24 rfl
            have := tm_rv q24
            refine mv_iload_n d_TrustDeskModel_isSign_12 rfl rfl ?_
            have := mz_hi v25
            refine mv_icmp_neZ (tgt := 20) (a := v25.toInt) (b := 45) d_TrustDeskModel_isSign_13 (by decide) rfl (by decide) (fun b26 => ?_) (fun b26 => ?_)
            · refine mv_iconst (v := 0) d_TrustDeskModel_isSign_20 (by decide) ?_
              refine mv_iret d_TrustDeskModel_isSign_21 rfl (by decide) ?_
              refine mv_if_eq_t (tgt := 61) d_TrustDeskModel_sum_26 (by decide) (by decide) ?_
              exact mv_vret d_TrustDeskModel_sum_61 rfl ⟨_, I_13, rfl, kKR_13, kKE_13, (by have := kKR_13.1 15 _ _ rfl; have := kKR_13.1 16 _ _ rfl; have := kKR_13.1 19 _ _ rfl; have := kKE_13.f yS; omega)⟩
            · refine mv_iconst (v := 1) d_TrustDeskModel_isSign_16 (by decide) ?_
              refine mv_goto (tgt := 21) d_TrustDeskModel_isSign_17 (by decide) ?_
              refine mv_iret d_TrustDeskModel_isSign_21 rfl (by decide) ?_
              refine mv_if_eq_f (tgt := 61) d_TrustDeskModel_sum_26 (by decide) (by decide) ?_
              refine mv_aload_n d_TrustDeskModel_sum_29 rfl rfl ?_
              refine mv_bipush (v := 43) d_TrustDeskModel_sum_30 (by decide) ?_
              obtain ⟨_, b27, -⟩ := I_13.1 _ _ h_q0_13
              refine mv_callV (kc1 := 0) (ks1 := 0) (kc' := 0) (ks' := 0) (As := [.int 43]) (st9 := [.int 43, .ref o0]) d_TrustDeskModel_sum_32 lV_TrustDeskModel_234 b27 rfl (mj_enter (by decide) (Nat.le_of_ble_eq_true rfl) ?_) rfl (Nat.le_of_ble_eq_true rfl) (Nat.le_of_ble_eq_true rfl) (Nat.le_of_ble_eq_true rfl) (hst := rfl) (fun _ _ _ h => h)
              refine mv_aload_n d_TrustDeskModel_isSign_0 rfl rfl ?_
              refine tr_getK (k := 17) q19 d_TrustDeskModel_isSign_1 f_TrustDeskModel_198_13 ?_
              refine mv_iconst (v := 4) d_TrustDeskModel_isSign_4 (by decide) ?_
              have := mz_hi v20
              refine mv_icmp_neZ (tgt := 20) (a := v20.toInt) (b := 4) d_TrustDeskModel_isSign_5 (by decide) rfl (by decide) (fun b28 => absurd b28 (by omega)) (fun b28 => ?_)
              refine mv_aload_n d_TrustDeskModel_isSign_8 rfl rfl ?_
              refine tr_getK (k := 18) q24 d_TrustDeskModel_isSign_9 f_TrustDeskModel_201_13 ?_
              refine mv_iload_n d_TrustDeskModel_isSign_12 rfl rfl ?_
              have := mz_hi v25
              refine mv_icmp_neZ (tgt := 20) (a := v25.toInt) (b := 43) d_TrustDeskModel_isSign_13 (by decide) rfl (by decide) (fun b29 => ?_) (fun b29 => absurd b29 (by omega))
              refine mv_iconst (v := 0) d_TrustDeskModel_isSign_20 (by decide) ?_
              refine mv_iret d_TrustDeskModel_isSign_21 rfl (by decide) ?_
              refine mv_istore_n (lv' := [(1, .int 0), (0, .ref o0)]) d_TrustDeskModel_sum_35 rfl (by decide) rfl ?_
              refine mv_aload_n d_TrustDeskModel_sum_36 rfl rfl ?_
              obtain ⟨_, b36, -⟩ := I_13.1 _ _ h_q0_13
              refine mv_callV (kc' := 0) (ks' := 0) (As := []) (st9 := [.ref o0]) d_TrustDeskModel_sum_37 lV_TrustDeskModel_237 b36 rfl (tc_TrustDeskModel_next_x (d := (d + 15)) (x9 := x9) (o0 := o0) h_q0_13 kKR_13 I_13.start) rfl (Nat.le_of_ble_eq_true rfl) (Nat.le_of_ble_eq_true rfl) (Nat.le_of_ble_eq_true rfl) (hst := rfl) (fun b30r M31 n32 b30 => ?_)
              obtain ⟨T33, J34, rfl, R37, f38, f39⟩ := b30
              have I35 := I_13.call J34 (tm_sub (by decide)) (Or.inl rfl)
              have t40 := J34.up h_q0_13
              have := (rv_c I_13 J34 (I_13.up h_o0) (k := 19) rfl)
              have := (rv_c I_13 J34 (I_13.up h_o0) (k := 22) rfl)
              have h42 : rv M_13 o0 16 + 1 ≤ rv M_13 o0 15 := (by have := kKR_13.1 15 _ _ rfl; have := kKR_13.1 16 _ _ rfl; have := kKR_13.1 19 _ _ rfl; have := kKE_13.f yS; omega)
              have E41 : rE M0 M31 o0 1 1 := kKE_13.next f38 f39 (rv_c I_13 J34 (I_13.up h_o0) (k := 19) rfl) (rE_ha I_13 J34 (I_13.up h_o0) (by decide)) (e := 1) h42 (by decide)
              have q43 := J34.keep h_q0_13 (by decide) q15
              refine mv_aload_n d_TrustDeskModel_sum_40 rfl rfl ?_
              obtain ⟨_, b50, -⟩ := I35.1 _ _ t40
              refine mv_callV (kc' := 0) (ks' := 0) (As := []) (st9 := [.ref o0]) d_TrustDeskModel_sum_41 lV_TrustDeskModel_297 b50 rfl (tc_TrustDeskModel_product_q4_x (d := d) (x9 := x9) (o0 := o0) t40 R37 E41.1 (by have := R37.1 15 _ _ rfl; have := R37.1 16 _ _ rfl; have := R37.1 19 _ _ rfl; have := E41.f yS; omega) (by have := R37.1 15 _ _ rfl; have := R37.1 16 _ _ rfl; have := R37.1 19 _ _ rfl; have := E41.f yS; omega) I35.start) rfl (Nat.le_of_ble_eq_true rfl) (Nat.le_of_ble_eq_true rfl) (Nat.le_of_ble_eq_true rfl) (hst := rfl) (fun b44r M45 n46 b44 => ?_)
              obtain ⟨T47, J48, rfl, R51, f52, f53⟩ := b44
              have I49 := I35.call J48 (tm_sub (by decide)) (Or.inl rfl)
              have t54 := J48.up t40
              have E55 : rE M0 M45 o0 2 1 := E41.trans f52 (by decide) (yR.2 5 _ _ rfl 44).1 (by decide) (by decide)
              have := f52.w
              refine mv_aload_n d_TrustDeskModel_sum_44 rfl rfl ?_
              refine mv_iload_n d_TrustDeskModel_sum_45 rfl rfl ?_
              refine mv_if_eq_t (tgt := 53) d_TrustDeskModel_sum_46 (by decide) (by decide) ?_
              refine mv_bipush (v := (-2)) d_TrustDeskModel_sum_53 (by decide) ?_
              obtain ⟨_, b62, -⟩ := I49.1 _ _ t54
              refine mv_callV (kc' := 0) (ks' := 0) (As := [.int (-2)]) (st9 := [.int (-2), .ref o0]) d_TrustDeskModel_sum_55 lV_TrustDeskModel_279 b62 rfl (tc_TrustDeskModel_emits_x (d := (d + 15)) (x9 := x9) (o0 := o0) (x1 := (-2)) t54 R51 (by have := R51.1 15 _ _ rfl; have := R51.1 16 _ _ rfl; have := R51.1 19 _ _ rfl; have := E55.f yS; omega) (by decide) I49.start) rfl (Nat.le_of_ble_eq_true rfl) (Nat.le_of_ble_eq_true rfl) (Nat.le_of_ble_eq_true rfl) (hst := rfl) (fun b56r M57 n58 b56 => ?_)
              obtain ⟨T59, J60, rfl, R63, f64⟩ := b56
              have I61 := I49.call J60 (tm_sub (by decide)) (Or.inl rfl)
              have t65 := J60.up t54
              have := (rv_c I49 J60 (I49.up h_o0) (k := 16) rfl)
              have := (rv_c I49 J60 (I49.up h_o0) (k := 17) rfl)
              have := (rv_c I49 J60 (I49.up h_o0) (k := 19) rfl)
              have := (rv_c I49 J60 (I49.up h_o0) (k := 22) rfl)
              have E66 : rE M0 M57 o0 1 0 := E55.emit f64 (rE_hv I49 J60 (I49.up h_o0) 15 19 (by decide)) (yR.2 5 _ _ rfl 44).1 (by decide) (Or.inr (Or.inr ⟨by decide, by decide, by decide, by decide⟩)) (by decide)
              refine mv_goto (tgt := 4) d_TrustDeskModel_sum_58 (by decide) ?_
              refine mv_locals (lv' := [(0, .ref o0)]) (by intro q hq; simp only [List.mem_cons, List.not_mem_nil, or_false] at hq; rcases hq with rfl <;> rfl) ?_
              exact (ih13 T59 M57 n58 I61 t65 (by have := R63.1 15 _ _ rfl; have := R63.1 16 _ _ rfl; have := R63.1 19 _ _ rfl; have := E66.f yS; first | omega | decide) R63 E66 (by have := R63.1 15 _ _ rfl; have := R63.1 16 _ _ rfl; have := R63.1 19 _ _ rfl; have := E66.f yS; omega))
        · refine mv_aload_n d_TrustDeskModel_isSign_8 rfl rfl ?_
          obtain ⟨v68, q67⟩ := tm_atI I_13 h_q0_13 (k := 18) rfl
          refine tr_getK q67 d_TrustDeskModel_isSign_9 f_TrustDeskModel_201_13 ?_
          have := kKR_13.f (k := 18) q67 rfl
          have := tm_rv q67
          refine mv_iload_n d_TrustDeskModel_isSign_12 rfl rfl ?_
          have := mz_hi v68
          refine mv_icmp_neZ (tgt := 20) (a := v68.toInt) (b := 43) d_TrustDeskModel_isSign_13 (by decide) rfl (by decide) (fun b69 => ?_) (fun b69 => ?_)
          · refine mv_iconst (v := 0) d_TrustDeskModel_isSign_20 (by decide) ?_
            refine mv_iret d_TrustDeskModel_isSign_21 rfl (by decide) ?_
            refine mv_if_ne_f (tgt := 29) d_TrustDeskModel_sum_17 (by decide) (by decide) ?_
            refine mv_aload_n d_TrustDeskModel_sum_20 rfl rfl ?_
            refine mv_bipush (v := 45) d_TrustDeskModel_sum_21 (by decide) ?_
            obtain ⟨_, b70, -⟩ := I_13.1 _ _ h_q0_13
            refine mv_callV (kc1 := 0) (ks1 := 0) (kc' := 0) (ks' := 0) (As := [.int 45]) (st9 := [.int 45, .ref o0]) d_TrustDeskModel_sum_23 lV_TrustDeskModel_234 b70 rfl (mj_enter (by decide) (Nat.le_of_ble_eq_true rfl) ?_) rfl (Nat.le_of_ble_eq_true rfl) (Nat.le_of_ble_eq_true rfl) (Nat.le_of_ble_eq_true rfl) (hst := rfl) (fun _ _ _ h => h)
            refine mv_aload_n d_TrustDeskModel_isSign_0 rfl rfl ?_
            refine tr_getK (k := 17) q19 d_TrustDeskModel_isSign_1 f_TrustDeskModel_198_13 ?_
            refine mv_iconst (v := 4) d_TrustDeskModel_isSign_4 (by decide) ?_
            have := mz_hi v20
            refine mv_icmp_neZ (tgt := 20) (a := v20.toInt) (b := 4) d_TrustDeskModel_isSign_5 (by decide) rfl (by decide) (fun b71 => absurd b71 (by omega)) (fun b71 => ?_)
            refine mv_aload_n d_TrustDeskModel_isSign_8 rfl rfl ?_
            refine tr_getK (k := 18) q67 d_TrustDeskModel_isSign_9 f_TrustDeskModel_201_13 ?_
            refine mv_iload_n d_TrustDeskModel_isSign_12 rfl rfl ?_
            have := mz_hi v68
            refine mv_icmp_neZ (tgt := 20) (a := v68.toInt) (b := 45) d_TrustDeskModel_isSign_13 (by decide) rfl (by decide) (fun b72 => ?_) (fun b72 => ?_)
            · refine mv_iconst (v := 0) d_TrustDeskModel_isSign_20 (by decide) ?_
              refine mv_iret d_TrustDeskModel_isSign_21 rfl (by decide) ?_
              refine mv_if_eq_t (tgt := 61) d_TrustDeskModel_sum_26 (by decide) (by decide) ?_
              exact mv_vret d_TrustDeskModel_sum_61 rfl ⟨_, I_13, rfl, kKR_13, kKE_13, (by have := kKR_13.1 15 _ _ rfl; have := kKR_13.1 16 _ _ rfl; have := kKR_13.1 19 _ _ rfl; have := kKE_13.f yS; omega)⟩
            · refine mv_iconst (v := 1) d_TrustDeskModel_isSign_16 (by decide) ?_
              refine mv_goto (tgt := 21) d_TrustDeskModel_isSign_17 (by decide) ?_
              refine mv_iret d_TrustDeskModel_isSign_21 rfl (by decide) ?_
              refine mv_if_eq_f (tgt := 61) d_TrustDeskModel_sum_26 (by decide) (by decide) ?_
              refine mv_aload_n d_TrustDeskModel_sum_29 rfl rfl ?_
              refine mv_bipush (v := 43) d_TrustDeskModel_sum_30 (by decide) ?_
              obtain ⟨_, b73, -⟩ := I_13.1 _ _ h_q0_13
              refine mv_callV (kc1 := 0) (ks1 := 0) (kc' := 0) (ks' := 0) (As := [.int 43]) (st9 := [.int 43, .ref o0]) d_TrustDeskModel_sum_32 lV_TrustDeskModel_234 b73 rfl (mj_enter (by decide) (Nat.le_of_ble_eq_true rfl) ?_) rfl (Nat.le_of_ble_eq_true rfl) (Nat.le_of_ble_eq_true rfl) (Nat.le_of_ble_eq_true rfl) (hst := rfl) (fun _ _ _ h => h)
              refine mv_aload_n d_TrustDeskModel_isSign_0 rfl rfl ?_
              refine tr_getK (k := 17) q19 d_TrustDeskModel_isSign_1 f_TrustDeskModel_198_13 ?_
              refine mv_iconst (v := 4) d_TrustDeskModel_isSign_4 (by decide) ?_
              have := mz_hi v20
              refine mv_icmp_neZ (tgt := 20) (a := v20.toInt) (b := 4) d_TrustDeskModel_isSign_5 (by decide) rfl (by decide) (fun b74 => absurd b74 (by omega)) (fun b74 => ?_)
              refine mv_aload_n d_TrustDeskModel_isSign_8 rfl rfl ?_
              refine tr_getK (k := 18) q67 d_TrustDeskModel_isSign_9 f_TrustDeskModel_201_13 ?_
              refine mv_iload_n d_TrustDeskModel_isSign_12 rfl rfl ?_
              have := mz_hi v68
              refine mv_icmp_neZ (tgt := 20) (a := v68.toInt) (b := 43) d_TrustDeskModel_isSign_13 (by decide) rfl (by decide) (fun b75 => ?_) (fun b75 => absurd b75 (by omega))
              refine mv_iconst (v := 0) d_TrustDeskModel_isSign_20 (by decide) ?_
              refine mv_iret d_TrustDeskModel_isSign_21 rfl (by decide) ?_
              refine mv_istore_n (lv' := [(1, .int 0), (0, .ref o0)]) d_TrustDeskModel_sum_35 rfl (by decide) rfl ?_
              refine mv_aload_n d_TrustDeskModel_sum_36 rfl rfl ?_
              obtain ⟨_, b82, -⟩ := I_13.1 _ _ h_q0_13
              refine mv_callV (kc' := 0) (ks' := 0) (As := []) (st9 := [.ref o0]) d_TrustDeskModel_sum_37 lV_TrustDeskModel_237 b82 rfl (tc_TrustDeskModel_next_x (d := (d + 15)) (x9 := x9) (o0 := o0) h_q0_13 kKR_13 I_13.start) rfl (Nat.le_of_ble_eq_true rfl) (Nat.le_of_ble_eq_true rfl) (Nat.le_of_ble_eq_true rfl) (hst := rfl) (fun b76r M77 n78 b76 => ?_)
              obtain ⟨T79, J80, rfl, R83, f84, f85⟩ := b76
              have I81 := I_13.call J80 (tm_sub (by decide)) (Or.inl rfl)
              have t86 := J80.up h_q0_13
              have := (rv_c I_13 J80 (I_13.up h_o0) (k := 19) rfl)
              have := (rv_c I_13 J80 (I_13.up h_o0) (k := 22) rfl)
              have h88 : rv M_13 o0 16 + 1 ≤ rv M_13 o0 15 := (by have := kKR_13.1 15 _ _ rfl; have := kKR_13.1 16 _ _ rfl; have := kKR_13.1 19 _ _ rfl; have := kKE_13.f yS; omega)
              have E87 : rE M0 M77 o0 1 1 := kKE_13.next f84 f85 (rv_c I_13 J80 (I_13.up h_o0) (k := 19) rfl) (rE_ha I_13 J80 (I_13.up h_o0) (by decide)) (e := 1) h88 (by decide)
              have q89 := J80.keep h_q0_13 (by decide) q15
              refine mv_aload_n d_TrustDeskModel_sum_40 rfl rfl ?_
              obtain ⟨_, b96, -⟩ := I81.1 _ _ t86
              refine mv_callV (kc' := 0) (ks' := 0) (As := []) (st9 := [.ref o0]) d_TrustDeskModel_sum_41 lV_TrustDeskModel_297 b96 rfl (tc_TrustDeskModel_product_q4_x (d := d) (x9 := x9) (o0 := o0) t86 R83 E87.1 (by have := R83.1 15 _ _ rfl; have := R83.1 16 _ _ rfl; have := R83.1 19 _ _ rfl; have := E87.f yS; omega) (by have := R83.1 15 _ _ rfl; have := R83.1 16 _ _ rfl; have := R83.1 19 _ _ rfl; have := E87.f yS; omega) I81.start) rfl (Nat.le_of_ble_eq_true rfl) (Nat.le_of_ble_eq_true rfl) (Nat.le_of_ble_eq_true rfl) (hst := rfl) (fun b90r M91 n92 b90 => ?_)
              obtain ⟨T93, J94, rfl, R97, f98, f99⟩ := b90
              have I95 := I81.call J94 (tm_sub (by decide)) (Or.inl rfl)
              have t100 := J94.up t86
              have E101 : rE M0 M91 o0 2 1 := E87.trans f98 (by decide) (yR.2 5 _ _ rfl 44).1 (by decide) (by decide)
              have := f98.w
              refine mv_aload_n d_TrustDeskModel_sum_44 rfl rfl ?_
              refine mv_iload_n d_TrustDeskModel_sum_45 rfl rfl ?_
              refine mv_if_eq_t (tgt := 53) d_TrustDeskModel_sum_46 (by decide) (by decide) ?_
              refine mv_bipush (v := (-2)) d_TrustDeskModel_sum_53 (by decide) ?_
              obtain ⟨_, b108, -⟩ := I95.1 _ _ t100
              refine mv_callV (kc' := 0) (ks' := 0) (As := [.int (-2)]) (st9 := [.int (-2), .ref o0]) d_TrustDeskModel_sum_55 lV_TrustDeskModel_279 b108 rfl (tc_TrustDeskModel_emits_x (d := (d + 15)) (x9 := x9) (o0 := o0) (x1 := (-2)) t100 R97 (by have := R97.1 15 _ _ rfl; have := R97.1 16 _ _ rfl; have := R97.1 19 _ _ rfl; have := E101.f yS; omega) (by decide) I95.start) rfl (Nat.le_of_ble_eq_true rfl) (Nat.le_of_ble_eq_true rfl) (Nat.le_of_ble_eq_true rfl) (hst := rfl) (fun b102r M103 n104 b102 => ?_)
              obtain ⟨T105, J106, rfl, R109, f110⟩ := b102
              have I107 := I95.call J106 (tm_sub (by decide)) (Or.inl rfl)
              have t111 := J106.up t100
              have := (rv_c I95 J106 (I95.up h_o0) (k := 16) rfl)
              have := (rv_c I95 J106 (I95.up h_o0) (k := 17) rfl)
              have := (rv_c I95 J106 (I95.up h_o0) (k := 19) rfl)
              have := (rv_c I95 J106 (I95.up h_o0) (k := 22) rfl)
              have E112 : rE M0 M103 o0 1 0 := E101.emit f110 (rE_hv I95 J106 (I95.up h_o0) 15 19 (by decide)) (yR.2 5 _ _ rfl 44).1 (by decide) (Or.inr (Or.inr ⟨by decide, by decide, by decide, by decide⟩)) (by decide)
              refine mv_goto (tgt := 4) d_TrustDeskModel_sum_58 (by decide) ?_
              refine mv_locals (lv' := [(0, .ref o0)]) (by intro q hq; simp only [List.mem_cons, List.not_mem_nil, or_false] at hq; rcases hq with rfl <;> rfl) ?_
              exact (ih13 T105 M103 n104 I107 t111 (by have := R109.1 15 _ _ rfl; have := R109.1 16 _ _ rfl; have := R109.1 19 _ _ rfl; have := E112.f yS; first | omega | decide) R109 E112 (by have := R109.1 15 _ _ rfl; have := R109.1 16 _ _ rfl; have := R109.1 19 _ _ rfl; have := E112.f yS; omega))
          · refine mv_iconst (v := 1) d_TrustDeskModel_isSign_16 (by decide) ?_
            refine mv_goto (tgt := 21) d_TrustDeskModel_isSign_17 (by decide) ?_
            refine mv_iret d_TrustDeskModel_isSign_21 rfl (by decide) ?_
            refine mv_if_ne_t (tgt := 29) d_TrustDeskModel_sum_17 (by decide) (by decide) ?_
            refine mv_aload_n d_TrustDeskModel_sum_29 rfl rfl ?_
            refine mv_bipush (v := 43) d_TrustDeskModel_sum_30 (by decide) ?_
            obtain ⟨_, b113, -⟩ := I_13.1 _ _ h_q0_13
            refine mv_callV (kc1 := 0) (ks1 := 0) (kc' := 0) (ks' := 0) (As := [.int 43]) (st9 := [.int 43, .ref o0]) d_TrustDeskModel_sum_32 lV_TrustDeskModel_234 b113 rfl (mj_enter (by decide) (Nat.le_of_ble_eq_true rfl) ?_) rfl (Nat.le_of_ble_eq_true rfl) (Nat.le_of_ble_eq_true rfl) (Nat.le_of_ble_eq_true rfl) (hst := rfl) (fun _ _ _ h => h)
            refine mv_aload_n d_TrustDeskModel_isSign_0 rfl rfl ?_
            refine tr_getK (k := 17) q19 d_TrustDeskModel_isSign_1 f_TrustDeskModel_198_13 ?_
            refine mv_iconst (v := 4) d_TrustDeskModel_isSign_4 (by decide) ?_
            have := mz_hi v20
            refine mv_icmp_neZ (tgt := 20) (a := v20.toInt) (b := 4) d_TrustDeskModel_isSign_5 (by decide) rfl (by decide) (fun b114 => absurd b114 (by omega)) (fun b114 => ?_)
            refine mv_aload_n d_TrustDeskModel_isSign_8 rfl rfl ?_
            refine tr_getK (k := 18) q67 d_TrustDeskModel_isSign_9 f_TrustDeskModel_201_13 ?_
            refine mv_iload_n d_TrustDeskModel_isSign_12 rfl rfl ?_
            have := mz_hi v68
            refine mv_icmp_neZ (tgt := 20) (a := v68.toInt) (b := 43) d_TrustDeskModel_isSign_13 (by decide) rfl (by decide) (fun b115 => absurd b115 (by omega)) (fun b115 => ?_)
            refine mv_iconst (v := 1) d_TrustDeskModel_isSign_16 (by decide) ?_
            refine mv_goto (tgt := 21) d_TrustDeskModel_isSign_17 (by decide) ?_
            refine mv_iret d_TrustDeskModel_isSign_21 rfl (by decide) ?_
            refine mv_istore_n (lv' := [(1, .int 1), (0, .ref o0)]) d_TrustDeskModel_sum_35 rfl (by decide) rfl ?_
            refine mv_aload_n d_TrustDeskModel_sum_36 rfl rfl ?_
            obtain ⟨_, b122, -⟩ := I_13.1 _ _ h_q0_13
            refine mv_callV (kc' := 0) (ks' := 0) (As := []) (st9 := [.ref o0]) d_TrustDeskModel_sum_37 lV_TrustDeskModel_237 b122 rfl (tc_TrustDeskModel_next_x (d := (d + 15)) (x9 := x9) (o0 := o0) h_q0_13 kKR_13 I_13.start) rfl (Nat.le_of_ble_eq_true rfl) (Nat.le_of_ble_eq_true rfl) (Nat.le_of_ble_eq_true rfl) (hst := rfl) (fun b116r M117 n118 b116 => ?_)
            obtain ⟨T119, J120, rfl, R123, f124, f125⟩ := b116
            have I121 := I_13.call J120 (tm_sub (by decide)) (Or.inl rfl)
            have t126 := J120.up h_q0_13
            have := (rv_c I_13 J120 (I_13.up h_o0) (k := 19) rfl)
            have := (rv_c I_13 J120 (I_13.up h_o0) (k := 22) rfl)
            have h128 : rv M_13 o0 16 + 1 ≤ rv M_13 o0 15 := (by have := kKR_13.1 15 _ _ rfl; have := kKR_13.1 16 _ _ rfl; have := kKR_13.1 19 _ _ rfl; have := kKE_13.f yS; omega)
            have E127 : rE M0 M117 o0 1 1 := kKE_13.next f124 f125 (rv_c I_13 J120 (I_13.up h_o0) (k := 19) rfl) (rE_ha I_13 J120 (I_13.up h_o0) (by decide)) (e := 1) h128 (by decide)
            have q129 := J120.keep h_q0_13 (by decide) q15
            refine mv_aload_n d_TrustDeskModel_sum_40 rfl rfl ?_
            obtain ⟨_, b136, -⟩ := I121.1 _ _ t126
            refine mv_callV (kc' := 0) (ks' := 0) (As := []) (st9 := [.ref o0]) d_TrustDeskModel_sum_41 lV_TrustDeskModel_297 b136 rfl (tc_TrustDeskModel_product_q4_x (d := d) (x9 := x9) (o0 := o0) t126 R123 E127.1 (by have := R123.1 15 _ _ rfl; have := R123.1 16 _ _ rfl; have := R123.1 19 _ _ rfl; have := E127.f yS; omega) (by have := R123.1 15 _ _ rfl; have := R123.1 16 _ _ rfl; have := R123.1 19 _ _ rfl; have := E127.f yS; omega) I121.start) rfl (Nat.le_of_ble_eq_true rfl) (Nat.le_of_ble_eq_true rfl) (Nat.le_of_ble_eq_true rfl) (hst := rfl) (fun b130r M131 n132 b130 => ?_)
            obtain ⟨T133, J134, rfl, R137, f138, f139⟩ := b130
            have I135 := I121.call J134 (tm_sub (by decide)) (Or.inl rfl)
            have t140 := J134.up t126
            have E141 : rE M0 M131 o0 2 1 := E127.trans f138 (by decide) (yR.2 5 _ _ rfl 44).1 (by decide) (by decide)
            have := f138.w
            refine mv_aload_n d_TrustDeskModel_sum_44 rfl rfl ?_
            refine mv_iload_n d_TrustDeskModel_sum_45 rfl rfl ?_
            refine mv_if_eq_f (tgt := 53) d_TrustDeskModel_sum_46 (by decide) (by decide) ?_
            refine mv_iconst (v := (-1)) d_TrustDeskModel_sum_49 (by decide) ?_
            refine mv_goto (tgt := 55) d_TrustDeskModel_sum_50 (by decide) ?_
            obtain ⟨_, b148, -⟩ := I135.1 _ _ t140
            refine mv_callV (kc' := 0) (ks' := 0) (As := [.int (-1)]) (st9 := [.int (-1), .ref o0]) d_TrustDeskModel_sum_55 lV_TrustDeskModel_279 b148 rfl (tc_TrustDeskModel_emits_x (d := (d + 15)) (x9 := x9) (o0 := o0) (x1 := (-1)) t140 R137 (by have := R137.1 15 _ _ rfl; have := R137.1 16 _ _ rfl; have := R137.1 19 _ _ rfl; have := E141.f yS; omega) (by decide) I135.start) rfl (Nat.le_of_ble_eq_true rfl) (Nat.le_of_ble_eq_true rfl) (Nat.le_of_ble_eq_true rfl) (hst := rfl) (fun b142r M143 n144 b142 => ?_)
            obtain ⟨T145, J146, rfl, R149, f150⟩ := b142
            have I147 := I135.call J146 (tm_sub (by decide)) (Or.inl rfl)
            have t151 := J146.up t140
            have := (rv_c I135 J146 (I135.up h_o0) (k := 16) rfl)
            have := (rv_c I135 J146 (I135.up h_o0) (k := 17) rfl)
            have := (rv_c I135 J146 (I135.up h_o0) (k := 19) rfl)
            have := (rv_c I135 J146 (I135.up h_o0) (k := 22) rfl)
            have E152 : rE M0 M143 o0 1 0 := E141.emit f150 (rE_hv I135 J146 (I135.up h_o0) 15 19 (by decide)) (yR.2 5 _ _ rfl 44).1 (by decide) (Or.inr (Or.inr ⟨by decide, by decide, by decide, by decide⟩)) (by decide)
            refine mv_goto (tgt := 4) d_TrustDeskModel_sum_58 (by decide) ?_
            refine mv_locals (lv' := [(0, .ref o0)]) (by intro q hq; simp only [List.mem_cons, List.not_mem_nil, or_false] at hq; rcases hq with rfl <;> rfl) ?_
            exact (ih13 T145 M143 n144 I147 t151 (by have := R149.1 15 _ _ rfl; have := R149.1 16 _ _ rfl; have := R149.1 19 _ _ rfl; have := E152.f yS; first | omega | decide) R149 E152 (by have := R149.1 15 _ _ rfl; have := R149.1 16 _ _ rfl; have := R149.1 19 _ _ rfl; have := E152.f yS; omega))
  exact mv_less (Nat.zero_le _) (Nat.zero_le _) (L4_13 4294967296 T4 M2 n3 I6 t11 (by have := R8.1 15 _ _ rfl; have := R8.1 16 _ _ rfl; have := R8.1 19 _ _ rfl; have := E12.f yS; first | omega | decide) R8 E12 (by have := R8.1 15 _ _ rfl; have := R8.1 16 _ _ rfl; have := R8.1 19 _ _ rfl; have := E12.f yS; omega))
def w_TrustDeskModel_factor_q5_x : List Nat := [1315, 1316, 1317, 1318, 1319, 1320, 1322, 20004, 20005]
theorem tc_TrustDeskModel_factor_q5_x {g : mj_G} {l : Launch} {d : Nat} {T0 : tm_H} {M0 : mj_M} {n0 x9 : Nat} {o0 : Nat} (h_o0 : T0 o0 = some (0, 13, 0)) (yR : rI M0 o0) (yT : rT M0 o0) (yS : rv M0 o0 19 = 0 → ra M0 o0 5 44 ≤ rv M0 o0 16) (yL : rv M0 o0 19 ≠ 0 ∨ (0 ≤ rv M0 o0 22 ∧ rv M0 o0 22 ≤ 4)) (I0 : tm_I tm_FT (tm_in w_TrustDeskModel_factor_q5_x) x9 T0 M0 n0 T0 M0 n0) : mj_Met g l kY_TrustDeskModel_factor (d + 18) [.ref o0] M0 n0 0 0 (tm_Q tm_FT (tm_in w_TrustDeskModel_factor_q5_x) x9 T0 M0 n0 (fun r _ M => r = none ∧ rI M o0 ∧ (rE M0 M o0 1 0) ∧ (rv M o0 19 = 0 → rv M o0 22 = rv M0 o0 22))) := by
  refine mj_enter (by decide) (Nat.le_of_ble_eq_true rfl) ?_
  have yE0 := rE.rf yT
  refine mv_aload_n d_TrustDeskModel_factor_0 rfl rfl ?_
  obtain ⟨_, b1, -⟩ := I0.1 _ _ h_o0
  refine mv_callV (kc1 := 0) (ks1 := 0) (kc' := 0) (ks' := 0) (As := []) (st9 := [.ref o0]) d_TrustDeskModel_factor_1 lV_TrustDeskModel_230 b1 rfl (mj_enter (by decide) (Nat.le_of_ble_eq_true rfl) ?_) rfl (Nat.le_of_ble_eq_true rfl) (Nat.le_of_ble_eq_true rfl) (Nat.le_of_ble_eq_true rfl) (hst := rfl) (fun _ _ _ h => h)
  refine mv_aload_n d_TrustDeskModel_isWell_0 rfl rfl ?_
  obtain ⟨v3, q2⟩ := tm_atI I0 h_o0 (k := 19) rfl
  refine tr_getK q2 d_TrustDeskModel_isWell_1 f_TrustDeskModel_224_13 ?_
  have := yR.f (k := 19) q2 rfl
  have := tm_rv q2
  have := mz_hi v3
  refine mv_if_neZ (tgt := 11) (a := v3.toInt) d_TrustDeskModel_isWell_4 (by decide) rfl (fun b4 => ?_) (fun b4 => ?_)
  · refine mv_iconst (v := 0) d_TrustDeskModel_isWell_11 (by decide) ?_
    refine mv_iret d_TrustDeskModel_isWell_12 rfl (by decide) ?_
    refine mv_if_ne_f (tgt := 8) d_TrustDeskModel_factor_4 (by decide) (by decide) ?_
    exact mv_vret d_TrustDeskModel_factor_7 rfl ⟨_, I0, rfl, yR, yE0.vac (by have := yR.1 15 _ _ rfl; have := yR.1 16 _ _ rfl; have := yR.1 19 _ _ rfl; have := yE0.f yS; omega) 1 0, (by have := yR.1 15 _ _ rfl; have := yR.1 16 _ _ rfl; have := yR.1 19 _ _ rfl; have := yE0.f yS; omega)⟩
  · refine mv_iconst (v := 1) d_TrustDeskModel_isWell_7 (by decide) ?_
    refine mv_goto (tgt := 12) d_TrustDeskModel_isWell_8 (by decide) ?_
    refine mv_iret d_TrustDeskModel_isWell_12 rfl (by decide) ?_
    refine mv_if_ne_t (tgt := 8) d_TrustDeskModel_factor_4 (by decide) (by decide) ?_
    refine mv_aload_n d_TrustDeskModel_factor_8 rfl rfl ?_
    obtain ⟨v6, q5⟩ := tm_atI I0 h_o0 (k := 17) rfl
    refine tr_getK q5 d_TrustDeskModel_factor_9 f_TrustDeskModel_198_13 ?_
    have := tm_rv q5
    refine mv_iconst (v := 2) d_TrustDeskModel_factor_12 (by decide) ?_
    have := mz_hi v6
    refine mv_icmp_neZ (tgt := 31) (a := v6.toInt) (b := 2) d_TrustDeskModel_factor_13 (by decide) rfl (by decide) (fun b7 => ?_) (fun b7 => ?_)
    · refine mv_aload_n d_TrustDeskModel_factor_31 rfl rfl ?_
      refine tr_getK (k := 17) q5 d_TrustDeskModel_factor_32 f_TrustDeskModel_198_13 ?_
      refine mv_iconst (v := 3) d_TrustDeskModel_factor_35 (by decide) ?_
      have := mz_hi v6
      refine mv_icmp_neZ (tgt := 77) (a := v6.toInt) (b := 3) d_TrustDeskModel_factor_36 (by decide) rfl (by decide) (fun b8 => ?_) (fun b8 => ?_)
      · refine mv_aload_n d_TrustDeskModel_factor_77 rfl rfl ?_
        refine mv_bipush (v := 40) d_TrustDeskModel_factor_78 (by decide) ?_
        obtain ⟨_, b9, -⟩ := I0.1 _ _ h_o0
        refine mv_callV (kc1 := 0) (ks1 := 0) (kc' := 0) (ks' := 0) (As := [.int 40]) (st9 := [.int 40, .ref o0]) d_TrustDeskModel_factor_80 lV_TrustDeskModel_234 b9 rfl (mj_enter (by decide) (Nat.le_of_ble_eq_true rfl) ?_) rfl (Nat.le_of_ble_eq_true rfl) (Nat.le_of_ble_eq_true rfl) (Nat.le_of_ble_eq_true rfl) (hst := rfl) (fun _ _ _ h => h)
        refine mv_aload_n d_TrustDeskModel_isSign_0 rfl rfl ?_
        refine tr_getK (k := 17) q5 d_TrustDeskModel_isSign_1 f_TrustDeskModel_198_13 ?_
        refine mv_iconst (v := 4) d_TrustDeskModel_isSign_4 (by decide) ?_
        have := mz_hi v6
        refine mv_icmp_neZ (tgt := 20) (a := v6.toInt) (b := 4) d_TrustDeskModel_isSign_5 (by decide) rfl (by decide) (fun b10 => ?_) (fun b10 => ?_)
        · refine mv_iconst (v := 0) d_TrustDeskModel_isSign_20 (by decide) ?_
          refine mv_iret d_TrustDeskModel_isSign_21 rfl (by decide) ?_
          refine mv_if_eq_t (tgt := 113) d_TrustDeskModel_factor_83 (by decide) (by decide) ?_
          refine mv_aload_n d_TrustDeskModel_factor_113 rfl rfl ?_
          refine mv_iconst (v := 1) d_TrustDeskModel_factor_114 (by decide) ?_
          obtain ⟨_, b17, -⟩ := I0.1 _ _ h_o0
          refine mv_callV (kc' := 0) (ks' := 0) (As := [.int 1]) (st9 := [.int 1, .ref o0]) d_TrustDeskModel_factor_115 lV_TrustDeskModel_240 b17 rfl (tc_TrustDeskModel_fails_x (d := (d + 17)) (x9 := x9) (o0 := o0) (x1 := 1) h_o0 yR (by decide) I0.start) rfl (Nat.le_of_ble_eq_true rfl) (Nat.le_of_ble_eq_true rfl) (Nat.le_of_ble_eq_true rfl) (hst := rfl) (fun b11r M12 n13 b11 => ?_)
          obtain ⟨T14, J15, rfl, R18, f19⟩ := b11
          have I16 := I0.call J15 (tm_sub (by decide)) (Or.inl rfl)
          have t20 := J15.up h_o0
          have := (rv_c I0 J15 (I0.up h_o0) (k := 16) rfl)
          have := (rv_c I0 J15 (I0.up h_o0) (k := 17) rfl)
          have := (rv_c I0 J15 (I0.up h_o0) (k := 22) rfl)
          have E21 : rE M0 M12 o0 0 0 := yE0.fails (rE_hv I0 J15 (I0.up h_o0) 15 18 (by decide)) (rE_ha I0 J15 (I0.up h_o0) (by decide)) f19 0 0
          have q22 := J15.keep h_o0 (by decide) q5
          exact mv_vret d_TrustDeskModel_factor_118 rfl ⟨_, I16, rfl, R18, E21.vac (by have := R18.1 15 _ _ rfl; have := R18.1 16 _ _ rfl; have := R18.1 19 _ _ rfl; have := E21.f yS; omega) 1 0, (by have := R18.1 15 _ _ rfl; have := R18.1 16 _ _ rfl; have := R18.1 19 _ _ rfl; have := E21.f yS; omega)⟩
        · refine mv_aload_n d_TrustDeskModel_isSign_8 rfl rfl ?_
          obtain ⟨v24, q23⟩ := tm_atI I0 h_o0 (k := 18) rfl
          refine tr_getK q23 d_TrustDeskModel_isSign_9 f_TrustDeskModel_201_13 ?_
          have := yR.f (k := 18) q23 rfl
          have := tm_rv q23
          refine mv_iload_n d_TrustDeskModel_isSign_12 rfl rfl ?_
          have := mz_hi v24
          refine mv_icmp_neZ (tgt := 20) (a := v24.toInt) (b := 40) d_TrustDeskModel_isSign_13 (by decide) rfl (by decide) (fun b25 => ?_) (fun b25 => ?_)
          · refine mv_iconst (v := 0) d_TrustDeskModel_isSign_20 (by decide) ?_
            refine mv_iret d_TrustDeskModel_isSign_21 rfl (by decide) ?_
            refine mv_if_eq_t (tgt := 113) d_TrustDeskModel_factor_83 (by decide) (by decide) ?_
            refine mv_aload_n d_TrustDeskModel_factor_113 rfl rfl ?_
            refine mv_iconst (v := 1) d_TrustDeskModel_factor_114 (by decide) ?_
            obtain ⟨_, b32, -⟩ := I0.1 _ _ h_o0
            refine mv_callV (kc' := 0) (ks' := 0) (As := [.int 1]) (st9 := [.int 1, .ref o0]) d_TrustDeskModel_factor_115 lV_TrustDeskModel_240 b32 rfl (tc_TrustDeskModel_fails_x (d := (d + 17)) (x9 := x9) (o0 := o0) (x1 := 1) h_o0 yR (by decide) I0.start) rfl (Nat.le_of_ble_eq_true rfl) (Nat.le_of_ble_eq_true rfl) (Nat.le_of_ble_eq_true rfl) (hst := rfl) (fun b26r M27 n28 b26 => ?_)
            obtain ⟨T29, J30, rfl, R33, f34⟩ := b26
            have I31 := I0.call J30 (tm_sub (by decide)) (Or.inl rfl)
            have t35 := J30.up h_o0
            have := (rv_c I0 J30 (I0.up h_o0) (k := 16) rfl)
            have := (rv_c I0 J30 (I0.up h_o0) (k := 17) rfl)
            have := (rv_c I0 J30 (I0.up h_o0) (k := 22) rfl)
            have E36 : rE M0 M27 o0 0 0 := yE0.fails (rE_hv I0 J30 (I0.up h_o0) 15 18 (by decide)) (rE_ha I0 J30 (I0.up h_o0) (by decide)) f34 0 0
            have q37 := J30.keep h_o0 (by decide) q5
            have q38 := J30.keep h_o0 (by decide) q23
            exact mv_vret d_TrustDeskModel_factor_118 rfl ⟨_, I31, rfl, R33, E36.vac (by have := R33.1 15 _ _ rfl; have := R33.1 16 _ _ rfl; have := R33.1 19 _ _ rfl; have := E36.f yS; omega) 1 0, (by have := R33.1 15 _ _ rfl; have := R33.1 16 _ _ rfl; have := R33.1 19 _ _ rfl; have := E36.f yS; omega)⟩
          · refine mv_iconst (v := 1) d_TrustDeskModel_isSign_16 (by decide) ?_
            refine mv_goto (tgt := 21) d_TrustDeskModel_isSign_17 (by decide) ?_
            refine mv_iret d_TrustDeskModel_isSign_21 rfl (by decide) ?_
            refine mv_if_eq_f (tgt := 113) d_TrustDeskModel_factor_83 (by decide) (by decide) ?_
            refine mv_aload_n d_TrustDeskModel_factor_86 rfl rfl ?_
            obtain ⟨_, b45, -⟩ := I0.1 _ _ h_o0
            refine mv_callV (kc' := 0) (ks' := 0) (As := []) (st9 := [.ref o0]) d_TrustDeskModel_factor_87 lV_TrustDeskModel_285 b45 rfl (tc_TrustDeskModel_opens_x (d := (d + 15)) (x9 := x9) (o0 := o0) h_o0 yR yE0.1 (by have := yR.1 15 _ _ rfl; have := yR.1 16 _ _ rfl; have := yR.1 19 _ _ rfl; have := yE0.f yS; omega) (by have := yR.1 15 _ _ rfl; have := yR.1 16 _ _ rfl; have := yR.1 19 _ _ rfl; have := yE0.f yS; omega) (by have := yR.1 15 _ _ rfl; have := yR.1 16 _ _ rfl; have := yR.1 19 _ _ rfl; have := yE0.f yS; omega) I0.start) rfl (Nat.le_of_ble_eq_true rfl) (Nat.le_of_ble_eq_true rfl) (Nat.le_of_ble_eq_true rfl) (hst := rfl) (fun b39r M40 n41 b39 => ?_)
            obtain ⟨T42, J43, rfl, R46, f47, f48⟩ := b39
            have I44 := I0.call J43 (tm_sub (by decide)) (Or.inl rfl)
            have t49 := J43.up h_o0
            have E50 : rE M0 M40 o0 0 1 := yE0.trans f47 (by decide) (yR.2 5 _ _ rfl 44).1 (by decide) (by decide)
            have := f47.w
            refine mv_aload_n d_TrustDeskModel_factor_90 rfl rfl ?_
            obtain ⟨_, b57, -⟩ := I44.1 _ _ t49
            refine mv_callV (kc' := 0) (ks' := 0) (As := []) (st9 := [.ref o0]) d_TrustDeskModel_factor_91 lV_TrustDeskModel_288 b57 rfl (tc_TrustDeskModel_sum_q4_x (d := d) (x9 := x9) (o0 := o0) t49 R46 E50.1 (by have := R46.1 15 _ _ rfl; have := R46.1 16 _ _ rfl; have := R46.1 19 _ _ rfl; have := E50.f yS; omega) (by have := R46.1 15 _ _ rfl; have := R46.1 16 _ _ rfl; have := R46.1 19 _ _ rfl; have := E50.f yS; omega) I44.start) rfl (Nat.le_of_ble_eq_true rfl) (Nat.le_of_ble_eq_true rfl) (Nat.le_of_ble_eq_true rfl) (hst := rfl) (fun b51r M52 n53 b51 => ?_)
            obtain ⟨T54, J55, rfl, R58, f59, f60⟩ := b51
            have I56 := I44.call J55 (tm_sub (by decide)) (Or.inl rfl)
            have t61 := J55.up t49
            have E62 : rE M0 M52 o0 1 1 := E50.trans f59 (by decide) (yR.2 5 _ _ rfl 44).1 (by decide) (by decide)
            have := f59.w
            refine mv_aload_n d_TrustDeskModel_factor_94 rfl rfl ?_
            refine mv_bipush (v := 41) d_TrustDeskModel_factor_95 (by decide) ?_
            obtain ⟨_, b69, -⟩ := I56.1 _ _ t61
            refine mv_callV (kc' := 0) (ks' := 0) (As := [.int 41]) (st9 := [.int 41, .ref o0]) d_TrustDeskModel_factor_97 lV_TrustDeskModel_291 b69 rfl (tc_TrustDeskModel_wantSign_x (d := (d + 15)) (x9 := x9) (o0 := o0) (x1 := 41) t61 R58 E62.1 (by have := R58.1 15 _ _ rfl; have := R58.1 16 _ _ rfl; have := R58.1 19 _ _ rfl; have := E62.f yS; omega) I56.start) rfl (Nat.le_of_ble_eq_true rfl) (Nat.le_of_ble_eq_true rfl) (Nat.le_of_ble_eq_true rfl) (hst := rfl) (fun b63r M64 n65 b63 => ?_)
            obtain ⟨T66, J67, rfl, R70, f71⟩ := b63
            have I68 := I56.call J67 (tm_sub (by decide)) (Or.inl rfl)
            have t72 := J67.up t61
            have := (rv_c I56 J67 (I56.up h_o0) (k := 22) rfl)
            have E73 : rE M0 M64 o0 1 2 := E62.trans f71 (by decide) (yR.2 5 _ _ rfl 44).1 (by decide) (by decide)
            have := f71.w
            refine mv_aload_n d_TrustDeskModel_factor_100 rfl rfl ?_
            refine mv_dup d_TrustDeskModel_factor_101 rfl ?_
            obtain ⟨v75, q74⟩ := tm_atI I68 t72 (k := 22) rfl
            refine tr_getK q74 d_TrustDeskModel_factor_102 f_TrustDeskModel_276_13 ?_
            have := tm_rv q74
            refine mv_iconst (v := 1) d_TrustDeskModel_factor_105 (by decide) ?_
            refine mv_isub d_TrustDeskModel_factor_106 ?_
            have : rv M64 o0 19 = 0 → (v75 - 1 : Int32).toInt = v75.toInt - 1 := fun h9 => mz_sub2 rfl (by decide) (by omega) (by omega)
            refine tr_putR (k := 22) I68 R70 t72 rfl ⟨_, rfl⟩ (fun _ h => by cases h) rfl (fun lo hi h => by cases h) (Or.inl (by decide)) d_TrustDeskModel_factor_107 p_TrustDeskModel_276_13 rfl rfl (fun M76 I77 q78 K79 R80 A81 V82 => ?_)
            have := V82 16 (by decide)
            have := V82 17 (by decide)
            have := V82 19 (by decide)
            have := tm_rv q78
            have E83 : rE M0 M76 o0 1 2 := E73.same (fun k h1 h2 => V82 k (by omega)) (fun k h1 h2 => A81 k (by omega))
            refine mv_goto (tgt := 118) d_TrustDeskModel_factor_110 (by decide) ?_
            exact mv_vret d_TrustDeskModel_factor_118 rfl ⟨_, I77, rfl, R80, E83.less (by decide), (by have := R80.1 15 _ _ rfl; have := R80.1 16 _ _ rfl; have := R80.1 19 _ _ rfl; have := E83.f yS; omega)⟩
      · refine mv_aload_n d_TrustDeskModel_factor_39 rfl rfl ?_
        obtain ⟨_, b90, -⟩ := I0.1 _ _ h_o0
        refine mv_callV (kc' := 0) (ks' := 0) (As := []) (st9 := [.ref o0]) d_TrustDeskModel_factor_40 lV_TrustDeskModel_282 b90 rfl (tc_TrustDeskModel_name_x (d := (d + 12)) (x9 := x9) (o0 := o0) h_o0 yR I0.start) rfl (Nat.le_of_ble_eq_true rfl) (Nat.le_of_ble_eq_true rfl) (Nat.le_of_ble_eq_true rfl) (hst := rfl) (fun b84r M85 n86 b84 => ?_)
        obtain ⟨T87, J88, v91, rfl, R92, f93⟩ := b84
        have I89 := I0.call J88 (tm_sub (by decide)) (Or.inl rfl)
        have t94 := J88.up h_o0
        have := (rv_c I0 J88 (I0.up h_o0) (k := 16) rfl)
        have := (rv_c I0 J88 (I0.up h_o0) (k := 17) rfl)
        have := (rv_c I0 J88 (I0.up h_o0) (k := 19) rfl)
        have := (rv_c I0 J88 (I0.up h_o0) (k := 22) rfl)
        have E95 : rE M0 M85 o0 0 0 := yE0.same (rE_hv I0 J88 (I0.up h_o0) 15 19 (by decide)) (rE_ha I0 J88 (I0.up h_o0) (by decide))
        have q96 := J88.keep h_o0 (by decide) q2
        have q97 := J88.keep h_o0 (by decide) q5
        refine mv_istore_n (lv' := [(1, .int v91), (0, .ref o0)]) d_TrustDeskModel_factor_43 rfl (by decide) rfl ?_
        refine mv_iload_n d_TrustDeskModel_factor_44 rfl rfl ?_
        refine mv_iconst (v := (-1)) d_TrustDeskModel_factor_45 (by decide) ?_
        have := mz_hi v91
        refine mv_icmp_neZ (tgt := 54) (a := v91.toInt) (b := (-1)) d_TrustDeskModel_factor_46 (by decide) rfl (by decide) (fun b98 => ?_) (fun b98 => ?_)
        · refine mv_aload_n d_TrustDeskModel_factor_54 rfl rfl ?_
          refine mv_sipush (v := 10000) d_TrustDeskModel_factor_55 (by decide) ?_
          refine mv_iload_n d_TrustDeskModel_factor_58 rfl rfl ?_
          refine mv_iadd d_TrustDeskModel_factor_59 ?_
          obtain ⟨_, b105, -⟩ := I89.1 _ _ t94
          have b106 : (10000 + v91 : Int32).toInt = (10000 + v91.toInt) := mz_add2 (by decide) rfl (by have := R92.1 15 _ _ rfl; have := R92.1 16 _ _ rfl; have := R92.1 19 _ _ rfl; have := E95.f yS; omega) (by have := R92.1 15 _ _ rfl; have := R92.1 16 _ _ rfl; have := R92.1 19 _ _ rfl; have := E95.f yS; omega)
          refine mv_callV (kc' := 0) (ks' := 0) (As := [.int (10000 + v91)]) (st9 := [.int (10000 + v91), .ref o0]) d_TrustDeskModel_factor_60 lV_TrustDeskModel_279 b105 rfl (tc_TrustDeskModel_emits_x (d := (d + 16)) (x9 := x9) (o0 := o0) (x1 := (10000 + v91)) t94 R92 (by have := R92.1 15 _ _ rfl; have := R92.1 16 _ _ rfl; have := R92.1 19 _ _ rfl; have := E95.f yS; omega) (by have := R92.1 15 _ _ rfl; have := R92.1 16 _ _ rfl; have := R92.1 19 _ _ rfl; have := E95.f yS; omega) I89.start) rfl (Nat.le_of_ble_eq_true rfl) (Nat.le_of_ble_eq_true rfl) (Nat.le_of_ble_eq_true rfl) (hst := rfl) (fun b99r M100 n101 b99 => ?_)
          obtain ⟨T102, J103, rfl, R107, f108⟩ := b99
          have I104 := I89.call J103 (tm_sub (by decide)) (Or.inl rfl)
          have t109 := J103.up t94
          have := (rv_c I89 J103 (I89.up h_o0) (k := 16) rfl)
          have := (rv_c I89 J103 (I89.up h_o0) (k := 17) rfl)
          have := (rv_c I89 J103 (I89.up h_o0) (k := 19) rfl)
          have := (rv_c I89 J103 (I89.up h_o0) (k := 22) rfl)
          have E110 : rE M0 M100 o0 1 (-1) := E95.emit f108 (rE_hv I89 J103 (I89.up h_o0) 15 19 (by decide)) (yR.2 5 _ _ rfl 44).1 (by decide) (Or.inl ⟨by have := R92.1 15 _ _ rfl; have := R92.1 16 _ _ rfl; have := R92.1 19 _ _ rfl; have := E95.f yS; omega, by decide⟩) (by decide)
          have q111 := J103.keep t94 (by decide) q96
          have q112 := J103.keep t94 (by decide) q97
          refine mv_aload_n d_TrustDeskModel_factor_63 rfl rfl ?_
          obtain ⟨_, b113, -⟩ := I104.1 _ _ t109
          refine mv_callV (kc1 := 0) (ks1 := 0) (kc' := 0) (ks' := 0) (As := []) (st9 := [.ref o0]) d_TrustDeskModel_factor_64 lV_TrustDeskModel_230 b113 rfl (mj_enter (by decide) (Nat.le_of_ble_eq_true rfl) ?_) rfl (Nat.le_of_ble_eq_true rfl) (Nat.le_of_ble_eq_true rfl) (Nat.le_of_ble_eq_true rfl) (hst := rfl) (fun _ _ _ h => h)
          refine mv_aload_n d_TrustDeskModel_isWell_0 rfl rfl ?_
          refine tr_getK (k := 19) q111 d_TrustDeskModel_isWell_1 f_TrustDeskModel_224_13 ?_
          have := mz_hi v3
          refine mv_if_neZ (tgt := 11) (a := v3.toInt) d_TrustDeskModel_isWell_4 (by decide) rfl (fun b114 => absurd b114 (by omega)) (fun b114 => ?_)
          refine mv_iconst (v := 1) d_TrustDeskModel_isWell_7 (by decide) ?_
          refine mv_goto (tgt := 12) d_TrustDeskModel_isWell_8 (by decide) ?_
          refine mv_iret d_TrustDeskModel_isWell_12 rfl (by decide) ?_
          refine mv_if_eq_f (tgt := 74) d_TrustDeskModel_factor_67 (by decide) (by decide) ?_
          refine mv_aload_n d_TrustDeskModel_factor_70 rfl rfl ?_
          obtain ⟨_, b121, -⟩ := I104.1 _ _ t109
          refine mv_callV (kc' := 0) (ks' := 0) (As := []) (st9 := [.ref o0]) d_TrustDeskModel_factor_71 lV_TrustDeskModel_237 b121 rfl (tc_TrustDeskModel_next_x (d := (d + 16)) (x9 := x9) (o0 := o0) t109 R107 I104.start) rfl (Nat.le_of_ble_eq_true rfl) (Nat.le_of_ble_eq_true rfl) (Nat.le_of_ble_eq_true rfl) (hst := rfl) (fun b115r M116 n117 b115 => ?_)
          obtain ⟨T118, J119, rfl, R122, f123, f124⟩ := b115
          have I120 := I104.call J119 (tm_sub (by decide)) (Or.inl rfl)
          have t125 := J119.up t109
          have := (rv_c I104 J119 (I104.up h_o0) (k := 19) rfl)
          have := (rv_c I104 J119 (I104.up h_o0) (k := 22) rfl)
          have h127 : rv M100 o0 16 + 1 ≤ rv M100 o0 15 := (by have := R107.1 15 _ _ rfl; have := R107.1 16 _ _ rfl; have := R107.1 19 _ _ rfl; have := E110.f yS; omega)
          have E126 : rE M0 M116 o0 1 0 := E110.next f123 f124 (rv_c I104 J119 (I104.up h_o0) (k := 19) rfl) (rE_ha I104 J119 (I104.up h_o0) (by decide)) (e := 1) h127 (by decide)
          have q128 := J119.keep t109 (by decide) q111
          refine mv_goto (tgt := 118) d_TrustDeskModel_factor_74 (by decide) ?_
          exact mv_vret d_TrustDeskModel_factor_118 rfl ⟨_, I120, rfl, R122, E126, (by have := R122.1 15 _ _ rfl; have := R122.1 16 _ _ rfl; have := R122.1 19 _ _ rfl; have := E126.f yS; omega)⟩
        · refine mv_aload_n d_TrustDeskModel_factor_49 rfl rfl ?_
          refine mv_iconst (v := 3) d_TrustDeskModel_factor_50 (by decide) ?_
          obtain ⟨_, b135, -⟩ := I89.1 _ _ t94
          refine mv_callV (kc' := 0) (ks' := 0) (As := [.int 3]) (st9 := [.int 3, .ref o0]) d_TrustDeskModel_factor_51 lV_TrustDeskModel_240 b135 rfl (tc_TrustDeskModel_fails_x (d := (d + 17)) (x9 := x9) (o0 := o0) (x1 := 3) t94 R92 (by decide) I89.start) rfl (Nat.le_of_ble_eq_true rfl) (Nat.le_of_ble_eq_true rfl) (Nat.le_of_ble_eq_true rfl) (hst := rfl) (fun b129r M130 n131 b129 => ?_)
          obtain ⟨T132, J133, rfl, R136, f137⟩ := b129
          have I134 := I89.call J133 (tm_sub (by decide)) (Or.inl rfl)
          have t138 := J133.up t94
          have := (rv_c I89 J133 (I89.up h_o0) (k := 16) rfl)
          have := (rv_c I89 J133 (I89.up h_o0) (k := 17) rfl)
          have := (rv_c I89 J133 (I89.up h_o0) (k := 22) rfl)
          have E139 : rE M0 M130 o0 0 0 := E95.fails (rE_hv I89 J133 (I89.up h_o0) 15 18 (by decide)) (rE_ha I89 J133 (I89.up h_o0) (by decide)) f137 0 0
          have q140 := J133.keep t94 (by decide) q97
          refine mv_aload_n d_TrustDeskModel_factor_54 rfl rfl ?_
          refine mv_sipush (v := 10000) d_TrustDeskModel_factor_55 (by decide) ?_
          refine mv_iload_n d_TrustDeskModel_factor_58 rfl rfl ?_
          refine mv_iadd d_TrustDeskModel_factor_59 ?_
          obtain ⟨_, b147, -⟩ := I134.1 _ _ t138
          have b148 : (10000 + v91 : Int32).toInt = (10000 + v91.toInt) := mz_add2 (by decide) rfl (by have := R136.1 15 _ _ rfl; have := R136.1 16 _ _ rfl; have := R136.1 19 _ _ rfl; have := E139.f yS; omega) (by have := R136.1 15 _ _ rfl; have := R136.1 16 _ _ rfl; have := R136.1 19 _ _ rfl; have := E139.f yS; omega)
          refine mv_callV (kc' := 0) (ks' := 0) (As := [.int (10000 + v91)]) (st9 := [.int (10000 + v91), .ref o0]) d_TrustDeskModel_factor_60 lV_TrustDeskModel_279 b147 rfl (tc_TrustDeskModel_emits_x (d := (d + 16)) (x9 := x9) (o0 := o0) (x1 := (10000 + v91)) t138 R136 (by have := R136.1 15 _ _ rfl; have := R136.1 16 _ _ rfl; have := R136.1 19 _ _ rfl; have := E139.f yS; omega) (by have := R136.1 15 _ _ rfl; have := R136.1 16 _ _ rfl; have := R136.1 19 _ _ rfl; have := E139.f yS; omega) I134.start) rfl (Nat.le_of_ble_eq_true rfl) (Nat.le_of_ble_eq_true rfl) (Nat.le_of_ble_eq_true rfl) (hst := rfl) (fun b141r M142 n143 b141 => ?_)
          obtain ⟨T144, J145, rfl, R149, f150⟩ := b141
          have I146 := I134.call J145 (tm_sub (by decide)) (Or.inl rfl)
          have t151 := J145.up t138
          have := (rv_c I134 J145 (I134.up h_o0) (k := 16) rfl)
          have := (rv_c I134 J145 (I134.up h_o0) (k := 17) rfl)
          have := (rv_c I134 J145 (I134.up h_o0) (k := 19) rfl)
          have := (rv_c I134 J145 (I134.up h_o0) (k := 22) rfl)
          have E152 : rE M0 M142 o0 1 (-1) := E139.emit f150 (rE_hv I134 J145 (I134.up h_o0) 15 19 (by decide)) (yR.2 5 _ _ rfl 44).1 (by decide) (Or.inl ⟨by have := R136.1 15 _ _ rfl; have := R136.1 16 _ _ rfl; have := R136.1 19 _ _ rfl; have := E139.f yS; omega, by decide⟩) (by decide)
          have q153 := J145.keep t138 (by decide) q140
          refine mv_aload_n d_TrustDeskModel_factor_63 rfl rfl ?_
          obtain ⟨_, b154, -⟩ := I146.1 _ _ t151
          refine mv_callV (kc1 := 0) (ks1 := 0) (kc' := 0) (ks' := 0) (As := []) (st9 := [.ref o0]) d_TrustDeskModel_factor_64 lV_TrustDeskModel_230 b154 rfl (mj_enter (by decide) (Nat.le_of_ble_eq_true rfl) ?_) rfl (Nat.le_of_ble_eq_true rfl) (Nat.le_of_ble_eq_true rfl) (Nat.le_of_ble_eq_true rfl) (hst := rfl) (fun _ _ _ h => h)
          refine mv_aload_n d_TrustDeskModel_isWell_0 rfl rfl ?_
          obtain ⟨v156, q155⟩ := tm_atI I146 t151 (k := 19) rfl
          refine tr_getK q155 d_TrustDeskModel_isWell_1 f_TrustDeskModel_224_13 ?_
          have := R149.f (k := 19) q155 rfl
          have := tm_rv q155
          have := mz_hi v156
          refine mv_if_neZ (tgt := 11) (a := v156.toInt) d_TrustDeskModel_isWell_4 (by decide) rfl (fun b157 => ?_) (fun b157 => ?_)
          · refine mv_iconst (v := 0) d_TrustDeskModel_isWell_11 (by decide) ?_
            refine mv_iret d_TrustDeskModel_isWell_12 rfl (by decide) ?_
            refine mv_if_eq_t (tgt := 74) d_TrustDeskModel_factor_67 (by decide) (by decide) ?_
            refine mv_goto (tgt := 118) d_TrustDeskModel_factor_74 (by decide) ?_
            exact mv_vret d_TrustDeskModel_factor_118 rfl ⟨_, I146, rfl, R149, E152.vac (by have := R149.1 15 _ _ rfl; have := R149.1 16 _ _ rfl; have := R149.1 19 _ _ rfl; have := E152.f yS; omega) 1 0, (by have := R149.1 15 _ _ rfl; have := R149.1 16 _ _ rfl; have := R149.1 19 _ _ rfl; have := E152.f yS; omega)⟩
          · refine mv_iconst (v := 1) d_TrustDeskModel_isWell_7 (by decide) ?_
            refine mv_goto (tgt := 12) d_TrustDeskModel_isWell_8 (by decide) ?_
            refine mv_iret d_TrustDeskModel_isWell_12 rfl (by decide) ?_
            refine mv_if_eq_f (tgt := 74) d_TrustDeskModel_factor_67 (by decide) (by decide) ?_
            refine mv_aload_n d_TrustDeskModel_factor_70 rfl rfl ?_
            obtain ⟨_, b164, -⟩ := I146.1 _ _ t151
            refine mv_callV (kc' := 0) (ks' := 0) (As := []) (st9 := [.ref o0]) d_TrustDeskModel_factor_71 lV_TrustDeskModel_237 b164 rfl (tc_TrustDeskModel_next_x (d := (d + 16)) (x9 := x9) (o0 := o0) t151 R149 I146.start) rfl (Nat.le_of_ble_eq_true rfl) (Nat.le_of_ble_eq_true rfl) (Nat.le_of_ble_eq_true rfl) (hst := rfl) (fun b158r M159 n160 b158 => ?_)
            obtain ⟨T161, J162, rfl, R165, f166, f167⟩ := b158
            have I163 := I146.call J162 (tm_sub (by decide)) (Or.inl rfl)
            have t168 := J162.up t151
            have := (rv_c I146 J162 (I146.up h_o0) (k := 19) rfl)
            have := (rv_c I146 J162 (I146.up h_o0) (k := 22) rfl)
            have h170 : rv M142 o0 16 + 1 ≤ rv M142 o0 15 := (by have := R149.1 15 _ _ rfl; have := R149.1 16 _ _ rfl; have := R149.1 19 _ _ rfl; have := E152.f yS; omega)
            have E169 : rE M0 M159 o0 1 0 := E152.next f166 f167 (rv_c I146 J162 (I146.up h_o0) (k := 19) rfl) (rE_ha I146 J162 (I146.up h_o0) (by decide)) (e := 1) h170 (by decide)
            have q171 := J162.keep t151 (by decide) q155
            refine mv_goto (tgt := 118) d_TrustDeskModel_factor_74 (by decide) ?_
            exact mv_vret d_TrustDeskModel_factor_118 rfl ⟨_, I163, rfl, R165, E169, (by have := R165.1 15 _ _ rfl; have := R165.1 16 _ _ rfl; have := R165.1 19 _ _ rfl; have := E169.f yS; omega)⟩
    · refine mv_aload_n d_TrustDeskModel_factor_16 rfl rfl ?_
      refine mv_aload_n d_TrustDeskModel_factor_17 rfl rfl ?_
      obtain ⟨v173, q172⟩ := tm_atI I0 h_o0 (k := 18) rfl
      refine tr_getK q172 d_TrustDeskModel_factor_18 f_TrustDeskModel_201_13 ?_
      have := yR.f (k := 18) q172 rfl
      have := tm_rv q172
      obtain ⟨_, b180, -⟩ := I0.1 _ _ h_o0
      refine mv_callV (kc' := 0) (ks' := 0) (As := [.int v173]) (st9 := [.int v173, .ref o0]) d_TrustDeskModel_factor_21 lV_TrustDeskModel_279 b180 rfl (tc_TrustDeskModel_emits_x (d := (d + 16)) (x9 := x9) (o0 := o0) (x1 := v173) h_o0 yR (by have := yR.1 15 _ _ rfl; have := yR.1 16 _ _ rfl; have := yR.1 19 _ _ rfl; have := yE0.f yS; omega) (by have := yR.1 15 _ _ rfl; have := yR.1 16 _ _ rfl; have := yR.1 19 _ _ rfl; have := yE0.f yS; omega) I0.start) rfl (Nat.le_of_ble_eq_true rfl) (Nat.le_of_ble_eq_true rfl) (Nat.le_of_ble_eq_true rfl) (hst := rfl) (fun b174r M175 n176 b174 => ?_)
      obtain ⟨T177, J178, rfl, R181, f182⟩ := b174
      have I179 := I0.call J178 (tm_sub (by decide)) (Or.inl rfl)
      have t183 := J178.up h_o0
      have := (rv_c I0 J178 (I0.up h_o0) (k := 16) rfl)
      have := (rv_c I0 J178 (I0.up h_o0) (k := 17) rfl)
      have := (rv_c I0 J178 (I0.up h_o0) (k := 19) rfl)
      have := (rv_c I0 J178 (I0.up h_o0) (k := 22) rfl)
      have E184 : rE M0 M175 o0 1 (-1) := yE0.emit f182 (rE_hv I0 J178 (I0.up h_o0) 15 19 (by decide)) (yR.2 5 _ _ rfl 44).1 (by decide) (Or.inl ⟨by have := yR.1 15 _ _ rfl; have := yR.1 16 _ _ rfl; have := yR.1 19 _ _ rfl; have := yE0.f yS; omega, by decide⟩) (by decide)
      have q185 := J178.keep h_o0 (by decide) q2
      have q186 := J178.keep h_o0 (by decide) q5
      have q187 := J178.keep h_o0 (by decide) q172
      refine mv_aload_n d_TrustDeskModel_factor_24 rfl rfl ?_
      obtain ⟨_, b194, -⟩ := I179.1 _ _ t183
      refine mv_callV (kc' := 0) (ks' := 0) (As := []) (st9 := [.ref o0]) d_TrustDeskModel_factor_25 lV_TrustDeskModel_237 b194 rfl (tc_TrustDeskModel_next_x (d := (d + 16)) (x9 := x9) (o0 := o0) t183 R181 I179.start) rfl (Nat.le_of_ble_eq_true rfl) (Nat.le_of_ble_eq_true rfl) (Nat.le_of_ble_eq_true rfl) (hst := rfl) (fun b188r M189 n190 b188 => ?_)
      obtain ⟨T191, J192, rfl, R195, f196, f197⟩ := b188
      have I193 := I179.call J192 (tm_sub (by decide)) (Or.inl rfl)
      have t198 := J192.up t183
      have := (rv_c I179 J192 (I179.up h_o0) (k := 19) rfl)
      have := (rv_c I179 J192 (I179.up h_o0) (k := 22) rfl)
      have h200 : rv M175 o0 16 + 1 ≤ rv M175 o0 15 := (by have := R181.1 15 _ _ rfl; have := R181.1 16 _ _ rfl; have := R181.1 19 _ _ rfl; have := E184.f yS; omega)
      have E199 : rE M0 M189 o0 1 0 := E184.next f196 f197 (rv_c I179 J192 (I179.up h_o0) (k := 19) rfl) (rE_ha I179 J192 (I179.up h_o0) (by decide)) (e := 1) h200 (by decide)
      have q201 := J192.keep t183 (by decide) q185
      refine mv_goto (tgt := 118) d_TrustDeskModel_factor_28 (by decide) ?_
      exact mv_vret d_TrustDeskModel_factor_118 rfl ⟨_, I193, rfl, R195, E199, (by have := R195.1 15 _ _ rfl; have := R195.1 16 _ _ rfl; have := R195.1 19 _ _ rfl; have := E199.f yS; omega)⟩
def w_TrustDeskModel_product_q5_x : List Nat := [1315, 1316, 1317, 1318, 1319, 1320, 1322, 20004, 20005]
theorem tc_TrustDeskModel_product_q5_x {g : mj_G} {l : Launch} {d : Nat} {T0 : tm_H} {M0 : mj_M} {n0 x9 : Nat} {o0 : Nat} (h_o0 : T0 o0 = some (0, 13, 0)) (yR : rI M0 o0) (yT : rT M0 o0) (yS : rv M0 o0 19 = 0 → ra M0 o0 5 44 ≤ rv M0 o0 16) (yL : rv M0 o0 19 ≠ 0 ∨ (0 ≤ rv M0 o0 22 ∧ rv M0 o0 22 ≤ 4)) (I0 : tm_I tm_FT (tm_in w_TrustDeskModel_product_q5_x) x9 T0 M0 n0 T0 M0 n0) : mj_Met g l kY_TrustDeskModel_product (d + 19) [.ref o0] M0 n0 0 0 (tm_Q tm_FT (tm_in w_TrustDeskModel_product_q5_x) x9 T0 M0 n0 (fun r _ M => r = none ∧ rI M o0 ∧ (rE M0 M o0 1 0) ∧ (rv M o0 19 = 0 → rv M o0 22 = rv M0 o0 22))) := by
  refine mj_enter (by decide) (Nat.le_of_ble_eq_true rfl) ?_
  have yE0 := rE.rf yT
  refine mv_aload_n d_TrustDeskModel_product_0 rfl rfl ?_
  obtain ⟨_, b7, -⟩ := I0.1 _ _ h_o0
  refine mv_callV (kc' := 0) (ks' := 0) (As := []) (st9 := [.ref o0]) d_TrustDeskModel_product_1 lV_TrustDeskModel_294 b7 rfl (tc_TrustDeskModel_factor_q5_x (d := d) (x9 := x9) (o0 := o0) h_o0 yR yE0.1 (by have := yR.1 15 _ _ rfl; have := yR.1 16 _ _ rfl; have := yR.1 19 _ _ rfl; have := yE0.f yS; omega) (by have := yR.1 15 _ _ rfl; have := yR.1 16 _ _ rfl; have := yR.1 19 _ _ rfl; have := yE0.f yS; omega) I0.start) rfl (Nat.le_of_ble_eq_true rfl) (Nat.le_of_ble_eq_true rfl) (Nat.le_of_ble_eq_true rfl) (hst := rfl) (fun b1r M2 n3 b1 => ?_)
  obtain ⟨T4, J5, rfl, R8, f9, f10⟩ := b1
  have I6 := I0.call J5 (tm_sub (by decide)) (Or.inl rfl)
  have t11 := J5.up h_o0
  have E12 : rE M0 M2 o0 1 0 := yE0.trans f9 (by decide) (yR.2 5 _ _ rfl 44).1 (by decide) (by decide)
  have := f9.w
  have L4_13 : ∀ (k : Nat) (T_13 : tm_H) (M_13 : mj_M) (n_13 : Nat), tm_I tm_FT (tm_in w_TrustDeskModel_product_q5_x) x9 T0 M0 n0 T_13 M_13 n_13 → T_13 o0 = some (0, 13, 0) → (rv M_13 o0 19 = 0 → rv M_13 o0 22 = rv M0 o0 22) → (rI M_13 o0) → (rE M0 M_13 o0 1 0) → 5 * (401 - rv M_13 o0 16) - rv M_13 o0 19 < (k : Int) → mj_V g l kY_TrustDeskModel_product (d + 19) 4 [(0, .ref o0)] [] M_13 n_13 0 0 (tm_Q tm_FT (tm_in w_TrustDeskModel_product_q5_x) x9 T0 M0 n0 (fun r _ M => r = none ∧ rI M o0 ∧ (rE M0 M o0 1 0) ∧ (rv M o0 19 = 0 → rv M o0 22 = rv M0 o0 22))) := by
    intro k13
    induction k13 with
    | zero =>
      intro T_13 M_13 n_13 I_13 h_q0_13 iv0_13 kKR_13 kKE_13 hk13
      have := kKR_13.1 15 _ _ rfl
      have := kKR_13.1 16 _ _ rfl
      have := kKR_13.1 19 _ _ rfl
      exfalso; omega
    | succ k13 ih13 =>
      intro T_13 M_13 n_13 I_13 h_q0_13 iv0_13 kKR_13 kKE_13 hk13
      have := kKE_13.f yS
      refine mv_aload_n d_TrustDeskModel_product_4 rfl rfl ?_
      obtain ⟨_, b14, -⟩ := I_13.1 _ _ h_q0_13
      refine mv_callV (kc1 := 0) (ks1 := 0) (kc' := 0) (ks' := 0) (As := []) (st9 := [.ref o0]) d_TrustDeskModel_product_5 lV_TrustDeskModel_230 b14 rfl (mj_enter (by decide) (Nat.le_of_ble_eq_true rfl) ?_) rfl (Nat.le_of_ble_eq_true rfl) (Nat.le_of_ble_eq_true rfl) (Nat.le_of_ble_eq_true rfl) (hst := rfl) (fun _ _ _ h => h)
      refine mv_aload_n d_TrustDeskModel_isWell_0 rfl rfl ?_
      obtain ⟨v16, q15⟩ := tm_atI I_13 h_q0_13 (k := 19) rfl
      refine tr_getK q15 d_TrustDeskModel_isWell_1 f_TrustDeskModel_224_13 ?_
      have := kKR_13.f (k := 19) q15 rfl
      have := tm_rv q15
      have := mz_hi v16
      refine mv_if_neZ (tgt := 11) (a := v16.toInt) d_TrustDeskModel_isWell_4 (by decide) rfl (fun b17 => ?_) (fun b17 => ?_)
      · refine mv_iconst (v := 0) d_TrustDeskModel_isWell_11 (by decide) ?_
        refine mv_iret d_TrustDeskModel_isWell_12 rfl (by decide) ?_
        refine mv_if_eq_t (tgt := 37) d_TrustDeskModel_product_8 (by decide) (by decide) ?_
        exact mv_vret d_TrustDeskModel_product_37 rfl ⟨_, I_13, rfl, kKR_13, kKE_13, (by have := kKR_13.1 15 _ _ rfl; have := kKR_13.1 16 _ _ rfl; have := kKR_13.1 19 _ _ rfl; have := kKE_13.f yS; omega)⟩
      · refine mv_iconst (v := 1) d_TrustDeskModel_isWell_7 (by decide) ?_
        refine mv_goto (tgt := 12) d_TrustDeskModel_isWell_8 (by decide) ?_
        refine mv_iret d_TrustDeskModel_isWell_12 rfl (by decide) ?_
        refine mv_if_eq_f (tgt := 37) d_TrustDeskModel_product_8 (by decide) (by decide) ?_
        refine mv_aload_n d_TrustDeskModel_product_11 rfl rfl ?_
        refine mv_bipush (v := 42) d_TrustDeskModel_product_12 (by decide) ?_
        obtain ⟨_, b18, -⟩ := I_13.1 _ _ h_q0_13
        refine mv_callV (kc1 := 0) (ks1 := 0) (kc' := 0) (ks' := 0) (As := [.int 42]) (st9 := [.int 42, .ref o0]) d_TrustDeskModel_product_14 lV_TrustDeskModel_234 b18 rfl (mj_enter (by decide) (Nat.le_of_ble_eq_true rfl) ?_) rfl (Nat.le_of_ble_eq_true rfl) (Nat.le_of_ble_eq_true rfl) (Nat.le_of_ble_eq_true rfl) (hst := rfl) (fun _ _ _ h => h)
        refine mv_aload_n d_TrustDeskModel_isSign_0 rfl rfl ?_
        obtain ⟨v20, q19⟩ := tm_atI I_13 h_q0_13 (k := 17) rfl
        refine tr_getK q19 d_TrustDeskModel_isSign_1 f_TrustDeskModel_198_13 ?_
        have := tm_rv q19
        refine mv_iconst (v := 4) d_TrustDeskModel_isSign_4 (by decide) ?_
        have := mz_hi v20
        refine mv_icmp_neZ (tgt := 20) (a := v20.toInt) (b := 4) d_TrustDeskModel_isSign_5 (by decide) rfl (by decide) (fun b21 => ?_) (fun b21 => ?_)
        · refine mv_iconst (v := 0) d_TrustDeskModel_isSign_20 (by decide) ?_
          refine mv_iret d_TrustDeskModel_isSign_21 rfl (by decide) ?_
          refine mv_if_eq_t (tgt := 37) d_TrustDeskModel_product_17 (by decide) (by decide) ?_
          exact mv_vret d_TrustDeskModel_product_37 rfl ⟨_, I_13, rfl, kKR_13, kKE_13, (by have := kKR_13.1 15 _ _ rfl; have := kKR_13.1 16 _ _ rfl; have := kKR_13.1 19 _ _ rfl; have := kKE_13.f yS; omega)⟩
        · refine mv_aload_n d_TrustDeskModel_isSign_8 rfl rfl ?_
          obtain ⟨v23, q22⟩ := tm_atI I_13 h_q0_13 (k := 18) rfl
          refine tr_getK q22 d_TrustDeskModel_isSign_9 f_TrustDeskModel_201_13 ?_
          have := kKR_13.f (k := 18) q22 rfl
          have := tm_rv q22
          refine mv_iload_n d_TrustDeskModel_isSign_12 rfl rfl ?_
          have := mz_hi v23
          refine mv_icmp_neZ (tgt := 20) (a := v23.toInt) (b := 42) d_TrustDeskModel_isSign_13 (by decide) rfl (by decide) (fun b24 => ?_) (fun b24 => ?_)
          · refine mv_iconst (v := 0) d_TrustDeskModel_isSign_20 (by decide) ?_
            refine mv_iret d_TrustDeskModel_isSign_21 rfl (by decide) ?_
            refine mv_if_eq_t (tgt := 37) d_TrustDeskModel_product_17 (by decide) (by decide) ?_
            exact mv_vret d_TrustDeskModel_product_37 rfl ⟨_, I_13, rfl, kKR_13, kKE_13, (by have := kKR_13.1 15 _ _ rfl; have := kKR_13.1 16 _ _ rfl; have := kKR_13.1 19 _ _ rfl; have := kKE_13.f yS; omega)⟩
          · refine mv_iconst (v := 1) d_TrustDeskModel_isSign_16 (by decide) ?_
            refine mv_goto (tgt := 21) d_TrustDeskModel_isSign_17 (by decide) ?_
            refine mv_iret d_TrustDeskModel_isSign_21 rfl (by decide) ?_
            refine mv_if_eq_f (tgt := 37) d_TrustDeskModel_product_17 (by decide) (by decide) ?_
            refine mv_aload_n d_TrustDeskModel_product_20 rfl rfl ?_
            obtain ⟨_, b31, -⟩ := I_13.1 _ _ h_q0_13
            refine mv_callV (kc' := 0) (ks' := 0) (As := []) (st9 := [.ref o0]) d_TrustDeskModel_product_21 lV_TrustDeskModel_237 b31 rfl (tc_TrustDeskModel_next_x (d := (d + 17)) (x9 := x9) (o0 := o0) h_q0_13 kKR_13 I_13.start) rfl (Nat.le_of_ble_eq_true rfl) (Nat.le_of_ble_eq_true rfl) (Nat.le_of_ble_eq_true rfl) (hst := rfl) (fun b25r M26 n27 b25 => ?_)
            obtain ⟨T28, J29, rfl, R32, f33, f34⟩ := b25
            have I30 := I_13.call J29 (tm_sub (by decide)) (Or.inl rfl)
            have t35 := J29.up h_q0_13
            have := (rv_c I_13 J29 (I_13.up h_o0) (k := 19) rfl)
            have := (rv_c I_13 J29 (I_13.up h_o0) (k := 22) rfl)
            have h37 : rv M_13 o0 16 + 1 ≤ rv M_13 o0 15 := (by have := kKR_13.1 15 _ _ rfl; have := kKR_13.1 16 _ _ rfl; have := kKR_13.1 19 _ _ rfl; have := kKE_13.f yS; omega)
            have E36 : rE M0 M26 o0 1 1 := kKE_13.next f33 f34 (rv_c I_13 J29 (I_13.up h_o0) (k := 19) rfl) (rE_ha I_13 J29 (I_13.up h_o0) (by decide)) (e := 1) h37 (by decide)
            have q38 := J29.keep h_q0_13 (by decide) q15
            refine mv_aload_n d_TrustDeskModel_product_24 rfl rfl ?_
            obtain ⟨_, b45, -⟩ := I30.1 _ _ t35
            refine mv_callV (kc' := 0) (ks' := 0) (As := []) (st9 := [.ref o0]) d_TrustDeskModel_product_25 lV_TrustDeskModel_294 b45 rfl (tc_TrustDeskModel_factor_q5_x (d := d) (x9 := x9) (o0 := o0) t35 R32 E36.1 (by have := R32.1 15 _ _ rfl; have := R32.1 16 _ _ rfl; have := R32.1 19 _ _ rfl; have := E36.f yS; omega) (by have := R32.1 15 _ _ rfl; have := R32.1 16 _ _ rfl; have := R32.1 19 _ _ rfl; have := E36.f yS; omega) I30.start) rfl (Nat.le_of_ble_eq_true rfl) (Nat.le_of_ble_eq_true rfl) (Nat.le_of_ble_eq_true rfl) (hst := rfl) (fun b39r M40 n41 b39 => ?_)
            obtain ⟨T42, J43, rfl, R46, f47, f48⟩ := b39
            have I44 := I30.call J43 (tm_sub (by decide)) (Or.inl rfl)
            have t49 := J43.up t35
            have E50 : rE M0 M40 o0 2 1 := E36.trans f47 (by decide) (yR.2 5 _ _ rfl 44).1 (by decide) (by decide)
            have := f47.w
            refine mv_aload_n d_TrustDeskModel_product_28 rfl rfl ?_
            refine mv_bipush (v := (-3)) d_TrustDeskModel_product_29 (by decide) ?_
            obtain ⟨_, b57, -⟩ := I44.1 _ _ t49
            refine mv_callV (kc' := 0) (ks' := 0) (As := [.int (-3)]) (st9 := [.int (-3), .ref o0]) d_TrustDeskModel_product_31 lV_TrustDeskModel_279 b57 rfl (tc_TrustDeskModel_emits_x (d := (d + 17)) (x9 := x9) (o0 := o0) (x1 := (-3)) t49 R46 (by have := R46.1 15 _ _ rfl; have := R46.1 16 _ _ rfl; have := R46.1 19 _ _ rfl; have := E50.f yS; omega) (by decide) I44.start) rfl (Nat.le_of_ble_eq_true rfl) (Nat.le_of_ble_eq_true rfl) (Nat.le_of_ble_eq_true rfl) (hst := rfl) (fun b51r M52 n53 b51 => ?_)
            obtain ⟨T54, J55, rfl, R58, f59⟩ := b51
            have I56 := I44.call J55 (tm_sub (by decide)) (Or.inl rfl)
            have t60 := J55.up t49
            have := (rv_c I44 J55 (I44.up h_o0) (k := 16) rfl)
            have := (rv_c I44 J55 (I44.up h_o0) (k := 17) rfl)
            have := (rv_c I44 J55 (I44.up h_o0) (k := 19) rfl)
            have := (rv_c I44 J55 (I44.up h_o0) (k := 22) rfl)
            have E61 : rE M0 M52 o0 1 0 := E50.emit f59 (rE_hv I44 J55 (I44.up h_o0) 15 19 (by decide)) (yR.2 5 _ _ rfl 44).1 (by decide) (Or.inr (Or.inr ⟨by decide, by decide, by decide, by decide⟩)) (by decide)
            refine mv_goto (tgt := 4) d_TrustDeskModel_product_34 (by decide) ?_
            exact (ih13 T54 M52 n53 I56 t60 (by have := R58.1 15 _ _ rfl; have := R58.1 16 _ _ rfl; have := R58.1 19 _ _ rfl; have := E61.f yS; first | omega | decide) R58 E61 (by have := R58.1 15 _ _ rfl; have := R58.1 16 _ _ rfl; have := R58.1 19 _ _ rfl; have := E61.f yS; omega))
  exact mv_less (Nat.zero_le _) (Nat.zero_le _) (L4_13 4294967296 T4 M2 n3 I6 t11 (by have := R8.1 15 _ _ rfl; have := R8.1 16 _ _ rfl; have := R8.1 19 _ _ rfl; have := E12.f yS; first | omega | decide) R8 E12 (by have := R8.1 15 _ _ rfl; have := R8.1 16 _ _ rfl; have := R8.1 19 _ _ rfl; have := E12.f yS; omega))
def w_TrustDeskModel_sum_q5_x : List Nat := [1315, 1316, 1317, 1318, 1319, 1320, 1322, 20004, 20005]
theorem tc_TrustDeskModel_sum_q5_x {g : mj_G} {l : Launch} {d : Nat} {T0 : tm_H} {M0 : mj_M} {n0 x9 : Nat} {o0 : Nat} (h_o0 : T0 o0 = some (0, 13, 0)) (yR : rI M0 o0) (yT : rT M0 o0) (yS : rv M0 o0 19 = 0 → ra M0 o0 5 44 ≤ rv M0 o0 16) (yL : rv M0 o0 19 ≠ 0 ∨ (0 ≤ rv M0 o0 22 ∧ rv M0 o0 22 ≤ 4)) (I0 : tm_I tm_FT (tm_in w_TrustDeskModel_sum_q5_x) x9 T0 M0 n0 T0 M0 n0) : mj_Met g l kY_TrustDeskModel_sum (d + 20) [.ref o0] M0 n0 0 0 (tm_Q tm_FT (tm_in w_TrustDeskModel_sum_q5_x) x9 T0 M0 n0 (fun r _ M => r = none ∧ rI M o0 ∧ (rE M0 M o0 1 0) ∧ (rv M o0 19 = 0 → rv M o0 22 = rv M0 o0 22))) := by
  refine mj_enter (by decide) (Nat.le_of_ble_eq_true rfl) ?_
  have yE0 := rE.rf yT
  refine mv_aload_n d_TrustDeskModel_sum_0 rfl rfl ?_
  obtain ⟨_, b7, -⟩ := I0.1 _ _ h_o0
  refine mv_callV (kc' := 0) (ks' := 0) (As := []) (st9 := [.ref o0]) d_TrustDeskModel_sum_1 lV_TrustDeskModel_297 b7 rfl (tc_TrustDeskModel_product_q5_x (d := d) (x9 := x9) (o0 := o0) h_o0 yR yE0.1 (by have := yR.1 15 _ _ rfl; have := yR.1 16 _ _ rfl; have := yR.1 19 _ _ rfl; have := yE0.f yS; omega) (by have := yR.1 15 _ _ rfl; have := yR.1 16 _ _ rfl; have := yR.1 19 _ _ rfl; have := yE0.f yS; omega) I0.start) rfl (Nat.le_of_ble_eq_true rfl) (Nat.le_of_ble_eq_true rfl) (Nat.le_of_ble_eq_true rfl) (hst := rfl) (fun b1r M2 n3 b1 => ?_)
  obtain ⟨T4, J5, rfl, R8, f9, f10⟩ := b1
  have I6 := I0.call J5 (tm_sub (by decide)) (Or.inl rfl)
  have t11 := J5.up h_o0
  have E12 : rE M0 M2 o0 1 0 := yE0.trans f9 (by decide) (yR.2 5 _ _ rfl 44).1 (by decide) (by decide)
  have := f9.w
  have L4_13 : ∀ (k : Nat) (T_13 : tm_H) (M_13 : mj_M) (n_13 : Nat), tm_I tm_FT (tm_in w_TrustDeskModel_sum_q5_x) x9 T0 M0 n0 T_13 M_13 n_13 → T_13 o0 = some (0, 13, 0) → (rv M_13 o0 19 = 0 → rv M_13 o0 22 = rv M0 o0 22) → (rI M_13 o0) → (rE M0 M_13 o0 1 0) → 5 * (401 - rv M_13 o0 16) - rv M_13 o0 19 < (k : Int) → mj_V g l kY_TrustDeskModel_sum (d + 20) 4 [(0, .ref o0)] [] M_13 n_13 0 0 (tm_Q tm_FT (tm_in w_TrustDeskModel_sum_q5_x) x9 T0 M0 n0 (fun r _ M => r = none ∧ rI M o0 ∧ (rE M0 M o0 1 0) ∧ (rv M o0 19 = 0 → rv M o0 22 = rv M0 o0 22))) := by
    intro k13
    induction k13 with
    | zero =>
      intro T_13 M_13 n_13 I_13 h_q0_13 iv0_13 kKR_13 kKE_13 hk13
      have := kKR_13.1 15 _ _ rfl
      have := kKR_13.1 16 _ _ rfl
      have := kKR_13.1 19 _ _ rfl
      exfalso; omega
    | succ k13 ih13 =>
      intro T_13 M_13 n_13 I_13 h_q0_13 iv0_13 kKR_13 kKE_13 hk13
      have := kKE_13.f yS
      refine mv_aload_n d_TrustDeskModel_sum_4 rfl rfl ?_
      obtain ⟨_, b14, -⟩ := I_13.1 _ _ h_q0_13
      refine mv_callV (kc1 := 0) (ks1 := 0) (kc' := 0) (ks' := 0) (As := []) (st9 := [.ref o0]) d_TrustDeskModel_sum_5 lV_TrustDeskModel_230 b14 rfl (mj_enter (by decide) (Nat.le_of_ble_eq_true rfl) ?_) rfl (Nat.le_of_ble_eq_true rfl) (Nat.le_of_ble_eq_true rfl) (Nat.le_of_ble_eq_true rfl) (hst := rfl) (fun _ _ _ h => h)
      refine mv_aload_n d_TrustDeskModel_isWell_0 rfl rfl ?_
      obtain ⟨v16, q15⟩ := tm_atI I_13 h_q0_13 (k := 19) rfl
      refine tr_getK q15 d_TrustDeskModel_isWell_1 f_TrustDeskModel_224_13 ?_
      have := kKR_13.f (k := 19) q15 rfl
      have := tm_rv q15
      have := mz_hi v16
      refine mv_if_neZ (tgt := 11) (a := v16.toInt) d_TrustDeskModel_isWell_4 (by decide) rfl (fun b17 => ?_) (fun b17 => ?_)
      · refine mv_iconst (v := 0) d_TrustDeskModel_isWell_11 (by decide) ?_
        refine mv_iret d_TrustDeskModel_isWell_12 rfl (by decide) ?_
        refine mv_if_eq_t (tgt := 61) d_TrustDeskModel_sum_8 (by decide) (by decide) ?_
        exact mv_vret d_TrustDeskModel_sum_61 rfl ⟨_, I_13, rfl, kKR_13, kKE_13, (by have := kKR_13.1 15 _ _ rfl; have := kKR_13.1 16 _ _ rfl; have := kKR_13.1 19 _ _ rfl; have := kKE_13.f yS; omega)⟩
      · refine mv_iconst (v := 1) d_TrustDeskModel_isWell_7 (by decide) ?_
        refine mv_goto (tgt := 12) d_TrustDeskModel_isWell_8 (by decide) ?_
        refine mv_iret d_TrustDeskModel_isWell_12 rfl (by decide) ?_
        refine mv_if_eq_f (tgt := 61) d_TrustDeskModel_sum_8 (by decide) (by decide) ?_
        refine mv_aload_n d_TrustDeskModel_sum_11 rfl rfl ?_
        refine mv_bipush (v := 43) d_TrustDeskModel_sum_12 (by decide) ?_
        obtain ⟨_, b18, -⟩ := I_13.1 _ _ h_q0_13
        refine mv_callV (kc1 := 0) (ks1 := 0) (kc' := 0) (ks' := 0) (As := [.int 43]) (st9 := [.int 43, .ref o0]) d_TrustDeskModel_sum_14 lV_TrustDeskModel_234 b18 rfl (mj_enter (by decide) (Nat.le_of_ble_eq_true rfl) ?_) rfl (Nat.le_of_ble_eq_true rfl) (Nat.le_of_ble_eq_true rfl) (Nat.le_of_ble_eq_true rfl) (hst := rfl) (fun _ _ _ h => h)
        refine mv_aload_n d_TrustDeskModel_isSign_0 rfl rfl ?_
        obtain ⟨v20, q19⟩ := tm_atI I_13 h_q0_13 (k := 17) rfl
        refine tr_getK q19 d_TrustDeskModel_isSign_1 f_TrustDeskModel_198_13 ?_
        have := tm_rv q19
        refine mv_iconst (v := 4) d_TrustDeskModel_isSign_4 (by decide) ?_
        have := mz_hi v20
        refine mv_icmp_neZ (tgt := 20) (a := v20.toInt) (b := 4) d_TrustDeskModel_isSign_5 (by decide) rfl (by decide) (fun b21 => ?_) (fun b21 => ?_)
        · refine mv_iconst (v := 0) d_TrustDeskModel_isSign_20 (by decide) ?_
          refine mv_iret d_TrustDeskModel_isSign_21 rfl (by decide) ?_
          refine mv_if_ne_f (tgt := 29) d_TrustDeskModel_sum_17 (by decide) (by decide) ?_
          refine mv_aload_n d_TrustDeskModel_sum_20 rfl rfl ?_
          refine mv_bipush (v := 45) d_TrustDeskModel_sum_21 (by decide) ?_
          obtain ⟨_, b22, -⟩ := I_13.1 _ _ h_q0_13
          refine mv_callV (kc1 := 0) (ks1 := 0) (kc' := 0) (ks' := 0) (As := [.int 45]) (st9 := [.int 45, .ref o0]) d_TrustDeskModel_sum_23 lV_TrustDeskModel_234 b22 rfl (mj_enter (by decide) (Nat.le_of_ble_eq_true rfl) ?_) rfl (Nat.le_of_ble_eq_true rfl) (Nat.le_of_ble_eq_true rfl) (Nat.le_of_ble_eq_true rfl) (hst := rfl) (fun _ _ _ h => h)
          refine mv_aload_n d_TrustDeskModel_isSign_0 rfl rfl ?_
          refine tr_getK (k := 17) q19 d_TrustDeskModel_isSign_1 f_TrustDeskModel_198_13 ?_
          refine mv_iconst (v := 4) d_TrustDeskModel_isSign_4 (by decide) ?_
          have := mz_hi v20
          refine mv_icmp_neZ (tgt := 20) (a := v20.toInt) (b := 4) d_TrustDeskModel_isSign_5 (by decide) rfl (by decide) (fun b23 => ?_) (fun b23 => ?_)
          · refine mv_iconst (v := 0) d_TrustDeskModel_isSign_20 (by decide) ?_
            refine mv_iret d_TrustDeskModel_isSign_21 rfl (by decide) ?_
            refine mv_if_eq_t (tgt := 61) d_TrustDeskModel_sum_26 (by decide) (by decide) ?_
            exact mv_vret d_TrustDeskModel_sum_61 rfl ⟨_, I_13, rfl, kKR_13, kKE_13, (by have := kKR_13.1 15 _ _ rfl; have := kKR_13.1 16 _ _ rfl; have := kKR_13.1 19 _ _ rfl; have := kKE_13.f yS; omega)⟩
          · refine mv_aload_n d_TrustDeskModel_isSign_8 rfl rfl ?_
            obtain ⟨v25, q24⟩ := tm_atI I_13 h_q0_13 (k := 18) rfl
            refine tr_getK q24 d_TrustDeskModel_isSign_9 f_TrustDeskModel_201_13 ?_
            have := kKR_13.f (k := 18) q24 rfl
            have := tm_rv q24
            refine mv_iload_n d_TrustDeskModel_isSign_12 rfl rfl ?_
            have := mz_hi v25
            refine mv_icmp_neZ (tgt := 20) (a := v25.toInt) (b := 45) d_TrustDeskModel_isSign_13 (by decide) rfl (by decide) (fun b26 => ?_) (fun b26 => ?_)
            · refine mv_iconst (v := 0) d_TrustDeskModel_isSign_20 (by decide) ?_
              refine mv_iret d_TrustDeskModel_isSign_21 rfl (by decide) ?_
              refine mv_if_eq_t (tgt := 61) d_TrustDeskModel_sum_26 (by decide) (by decide) ?_
              exact mv_vret d_TrustDeskModel_sum_61 rfl ⟨_, I_13, rfl, kKR_13, kKE_13, (by have := kKR_13.1 15 _ _ rfl; have := kKR_13.1 16 _ _ rfl; have := kKR_13.1 19 _ _ rfl; have := kKE_13.f yS; omega)⟩
            · refine mv_iconst (v := 1) d_TrustDeskModel_isSign_16 (by decide) ?_
              refine mv_goto (tgt := 21) d_TrustDeskModel_isSign_17 (by decide) ?_
              refine mv_iret d_TrustDeskModel_isSign_21 rfl (by decide) ?_
              refine mv_if_eq_f (tgt := 61) d_TrustDeskModel_sum_26 (by decide) (by decide) ?_
              refine mv_aload_n d_TrustDeskModel_sum_29 rfl rfl ?_
              refine mv_bipush (v := 43) d_TrustDeskModel_sum_30 (by decide) ?_
              obtain ⟨_, b27, -⟩ := I_13.1 _ _ h_q0_13
              refine mv_callV (kc1 := 0) (ks1 := 0) (kc' := 0) (ks' := 0) (As := [.int 43]) (st9 := [.int 43, .ref o0]) d_TrustDeskModel_sum_32 lV_TrustDeskModel_234 b27 rfl (mj_enter (by decide) (Nat.le_of_ble_eq_true rfl) ?_) rfl (Nat.le_of_ble_eq_true rfl) (Nat.le_of_ble_eq_true rfl) (Nat.le_of_ble_eq_true rfl) (hst := rfl) (fun _ _ _ h => h)
              refine mv_aload_n d_TrustDeskModel_isSign_0 rfl rfl ?_
              refine tr_getK (k := 17) q19 d_TrustDeskModel_isSign_1 f_TrustDeskModel_198_13 ?_
              refine mv_iconst (v := 4) d_TrustDeskModel_isSign_4 (by decide) ?_
              have := mz_hi v20
              refine mv_icmp_neZ (tgt := 20) (a := v20.toInt) (b := 4) d_TrustDeskModel_isSign_5 (by decide) rfl (by decide) (fun b28 => absurd b28 (by omega)) (fun b28 => ?_)
              refine mv_aload_n d_TrustDeskModel_isSign_8 rfl rfl ?_
              refine tr_getK (k := 18) q24 d_TrustDeskModel_isSign_9 f_TrustDeskModel_201_13 ?_
              refine mv_iload_n d_TrustDeskModel_isSign_12 rfl rfl ?_
              have := mz_hi v25
              refine mv_icmp_neZ (tgt := 20) (a := v25.toInt) (b := 43) d_TrustDeskModel_isSign_13 (by decide) rfl (by decide) (fun b29 => ?_) (fun b29 => absurd b29 (by omega))
              refine mv_iconst (v := 0) d_TrustDeskModel_isSign_20 (by decide) ?_
              refine mv_iret d_TrustDeskModel_isSign_21 rfl (by decide) ?_
              refine mv_istore_n (lv' := [(1, .int 0), (0, .ref o0)]) d_TrustDeskModel_sum_35 rfl (by decide) rfl ?_
              refine mv_aload_n d_TrustDeskModel_sum_36 rfl rfl ?_
              obtain ⟨_, b36, -⟩ := I_13.1 _ _ h_q0_13
              refine mv_callV (kc' := 0) (ks' := 0) (As := []) (st9 := [.ref o0]) d_TrustDeskModel_sum_37 lV_TrustDeskModel_237 b36 rfl (tc_TrustDeskModel_next_x (d := (d + 18)) (x9 := x9) (o0 := o0) h_q0_13 kKR_13 I_13.start) rfl (Nat.le_of_ble_eq_true rfl) (Nat.le_of_ble_eq_true rfl) (Nat.le_of_ble_eq_true rfl) (hst := rfl) (fun b30r M31 n32 b30 => ?_)
              obtain ⟨T33, J34, rfl, R37, f38, f39⟩ := b30
              have I35 := I_13.call J34 (tm_sub (by decide)) (Or.inl rfl)
              have t40 := J34.up h_q0_13
              have := (rv_c I_13 J34 (I_13.up h_o0) (k := 19) rfl)
              have := (rv_c I_13 J34 (I_13.up h_o0) (k := 22) rfl)
              have h42 : rv M_13 o0 16 + 1 ≤ rv M_13 o0 15 := (by have := kKR_13.1 15 _ _ rfl; have := kKR_13.1 16 _ _ rfl; have := kKR_13.1 19 _ _ rfl; have := kKE_13.f yS; omega)
              have E41 : rE M0 M31 o0 1 1 := kKE_13.next f38 f39 (rv_c I_13 J34 (I_13.up h_o0) (k := 19) rfl) (rE_ha I_13 J34 (I_13.up h_o0) (by decide)) (e := 1) h42 (by decide)
              have q43 := J34.keep h_q0_13 (by decide) q15
              refine mv_aload_n d_TrustDeskModel_sum_40 rfl rfl ?_
              obtain ⟨_, b50, -⟩ := I35.1 _ _ t40
              refine mv_callV (kc' := 0) (ks' := 0) (As := []) (st9 := [.ref o0]) d_TrustDeskModel_sum_41 lV_TrustDeskModel_297 b50 rfl (tc_TrustDeskModel_product_q5_x (d := d) (x9 := x9) (o0 := o0) t40 R37 E41.1 (by have := R37.1 15 _ _ rfl; have := R37.1 16 _ _ rfl; have := R37.1 19 _ _ rfl; have := E41.f yS; omega) (by have := R37.1 15 _ _ rfl; have := R37.1 16 _ _ rfl; have := R37.1 19 _ _ rfl; have := E41.f yS; omega) I35.start) rfl (Nat.le_of_ble_eq_true rfl) (Nat.le_of_ble_eq_true rfl) (Nat.le_of_ble_eq_true rfl) (hst := rfl) (fun b44r M45 n46 b44 => ?_)
              obtain ⟨T47, J48, rfl, R51, f52, f53⟩ := b44
              have I49 := I35.call J48 (tm_sub (by decide)) (Or.inl rfl)
              have t54 := J48.up t40
              have E55 : rE M0 M45 o0 2 1 := E41.trans f52 (by decide) (yR.2 5 _ _ rfl 44).1 (by decide) (by decide)
              have := f52.w
              refine mv_aload_n d_TrustDeskModel_sum_44 rfl rfl ?_
              refine mv_iload_n d_TrustDeskModel_sum_45 rfl rfl ?_
              refine mv_if_eq_t (tgt := 53) d_TrustDeskModel_sum_46 (by decide) (by decide) ?_
              refine mv_bipush (v := (-2)) d_TrustDeskModel_sum_53 (by decide) ?_
              obtain ⟨_, b62, -⟩ := I49.1 _ _ t54
              refine mv_callV (kc' := 0) (ks' := 0) (As := [.int (-2)]) (st9 := [.int (-2), .ref o0]) d_TrustDeskModel_sum_55 lV_TrustDeskModel_279 b62 rfl (tc_TrustDeskModel_emits_x (d := (d + 18)) (x9 := x9) (o0 := o0) (x1 := (-2)) t54 R51 (by have := R51.1 15 _ _ rfl; have := R51.1 16 _ _ rfl; have := R51.1 19 _ _ rfl; have := E55.f yS; omega) (by decide) I49.start) rfl (Nat.le_of_ble_eq_true rfl) (Nat.le_of_ble_eq_true rfl) (Nat.le_of_ble_eq_true rfl) (hst := rfl) (fun b56r M57 n58 b56 => ?_)
              obtain ⟨T59, J60, rfl, R63, f64⟩ := b56
              have I61 := I49.call J60 (tm_sub (by decide)) (Or.inl rfl)
              have t65 := J60.up t54
              have := (rv_c I49 J60 (I49.up h_o0) (k := 16) rfl)
              have := (rv_c I49 J60 (I49.up h_o0) (k := 17) rfl)
              have := (rv_c I49 J60 (I49.up h_o0) (k := 19) rfl)
              have := (rv_c I49 J60 (I49.up h_o0) (k := 22) rfl)
              have E66 : rE M0 M57 o0 1 0 := E55.emit f64 (rE_hv I49 J60 (I49.up h_o0) 15 19 (by decide)) (yR.2 5 _ _ rfl 44).1 (by decide) (Or.inr (Or.inr ⟨by decide, by decide, by decide, by decide⟩)) (by decide)
              refine mv_goto (tgt := 4) d_TrustDeskModel_sum_58 (by decide) ?_
              refine mv_locals (lv' := [(0, .ref o0)]) (by intro q hq; simp only [List.mem_cons, List.not_mem_nil, or_false] at hq; rcases hq with rfl <;> rfl) ?_
              exact (ih13 T59 M57 n58 I61 t65 (by have := R63.1 15 _ _ rfl; have := R63.1 16 _ _ rfl; have := R63.1 19 _ _ rfl; have := E66.f yS; first | omega | decide) R63 E66 (by have := R63.1 15 _ _ rfl; have := R63.1 16 _ _ rfl; have := R63.1 19 _ _ rfl; have := E66.f yS; omega))
        · refine mv_aload_n d_TrustDeskModel_isSign_8 rfl rfl ?_
          obtain ⟨v68, q67⟩ := tm_atI I_13 h_q0_13 (k := 18) rfl
          refine tr_getK q67 d_TrustDeskModel_isSign_9 f_TrustDeskModel_201_13 ?_
          have := kKR_13.f (k := 18) q67 rfl
          have := tm_rv q67
          refine mv_iload_n d_TrustDeskModel_isSign_12 rfl rfl ?_
          have := mz_hi v68
          refine mv_icmp_neZ (tgt := 20) (a := v68.toInt) (b := 43) d_TrustDeskModel_isSign_13 (by decide) rfl (by decide) (fun b69 => ?_) (fun b69 => ?_)
          · refine mv_iconst (v := 0) d_TrustDeskModel_isSign_20 (by decide) ?_
            refine mv_iret d_TrustDeskModel_isSign_21 rfl (by decide) ?_
            refine mv_if_ne_f (tgt := 29) d_TrustDeskModel_sum_17 (by decide) (by decide) ?_
            refine mv_aload_n d_TrustDeskModel_sum_20 rfl rfl ?_
            refine mv_bipush (v := 45) d_TrustDeskModel_sum_21 (by decide) ?_
            obtain ⟨_, b70, -⟩ := I_13.1 _ _ h_q0_13
            refine mv_callV (kc1 := 0) (ks1 := 0) (kc' := 0) (ks' := 0) (As := [.int 45]) (st9 := [.int 45, .ref o0]) d_TrustDeskModel_sum_23 lV_TrustDeskModel_234 b70 rfl (mj_enter (by decide) (Nat.le_of_ble_eq_true rfl) ?_) rfl (Nat.le_of_ble_eq_true rfl) (Nat.le_of_ble_eq_true rfl) (Nat.le_of_ble_eq_true rfl) (hst := rfl) (fun _ _ _ h => h)
            refine mv_aload_n d_TrustDeskModel_isSign_0 rfl rfl ?_
            refine tr_getK (k := 17) q19 d_TrustDeskModel_isSign_1 f_TrustDeskModel_198_13 ?_
            refine mv_iconst (v := 4) d_TrustDeskModel_isSign_4 (by decide) ?_
            have := mz_hi v20
            refine mv_icmp_neZ (tgt := 20) (a := v20.toInt) (b := 4) d_TrustDeskModel_isSign_5 (by decide) rfl (by decide) (fun b71 => absurd b71 (by omega)) (fun b71 => ?_)
            refine mv_aload_n d_TrustDeskModel_isSign_8 rfl rfl ?_
            refine tr_getK (k := 18) q67 d_TrustDeskModel_isSign_9 f_TrustDeskModel_201_13 ?_
            refine mv_iload_n d_TrustDeskModel_isSign_12 rfl rfl ?_
            have := mz_hi v68
            refine mv_icmp_neZ (tgt := 20) (a := v68.toInt) (b := 45) d_TrustDeskModel_isSign_13 (by decide) rfl (by decide) (fun b72 => ?_) (fun b72 => ?_)
            · refine mv_iconst (v := 0) d_TrustDeskModel_isSign_20 (by decide) ?_
              refine mv_iret d_TrustDeskModel_isSign_21 rfl (by decide) ?_
              refine mv_if_eq_t (tgt := 61) d_TrustDeskModel_sum_26 (by decide) (by decide) ?_
              exact mv_vret d_TrustDeskModel_sum_61 rfl ⟨_, I_13, rfl, kKR_13, kKE_13, (by have := kKR_13.1 15 _ _ rfl; have := kKR_13.1 16 _ _ rfl; have := kKR_13.1 19 _ _ rfl; have := kKE_13.f yS; omega)⟩
            · refine mv_iconst (v := 1) d_TrustDeskModel_isSign_16 (by decide) ?_
              refine mv_goto (tgt := 21) d_TrustDeskModel_isSign_17 (by decide) ?_
              refine mv_iret d_TrustDeskModel_isSign_21 rfl (by decide) ?_
              refine mv_if_eq_f (tgt := 61) d_TrustDeskModel_sum_26 (by decide) (by decide) ?_
              refine mv_aload_n d_TrustDeskModel_sum_29 rfl rfl ?_
              refine mv_bipush (v := 43) d_TrustDeskModel_sum_30 (by decide) ?_
              obtain ⟨_, b73, -⟩ := I_13.1 _ _ h_q0_13
              refine mv_callV (kc1 := 0) (ks1 := 0) (kc' := 0) (ks' := 0) (As := [.int 43]) (st9 := [.int 43, .ref o0]) d_TrustDeskModel_sum_32 lV_TrustDeskModel_234 b73 rfl (mj_enter (by decide) (Nat.le_of_ble_eq_true rfl) ?_) rfl (Nat.le_of_ble_eq_true rfl) (Nat.le_of_ble_eq_true rfl) (Nat.le_of_ble_eq_true rfl) (hst := rfl) (fun _ _ _ h => h)
              refine mv_aload_n d_TrustDeskModel_isSign_0 rfl rfl ?_
              refine tr_getK (k := 17) q19 d_TrustDeskModel_isSign_1 f_TrustDeskModel_198_13 ?_
              refine mv_iconst (v := 4) d_TrustDeskModel_isSign_4 (by decide) ?_
              have := mz_hi v20
              refine mv_icmp_neZ (tgt := 20) (a := v20.toInt) (b := 4) d_TrustDeskModel_isSign_5 (by decide) rfl (by decide) (fun b74 => absurd b74 (by omega)) (fun b74 => ?_)
              refine mv_aload_n d_TrustDeskModel_isSign_8 rfl rfl ?_
              refine tr_getK (k := 18) q67 d_TrustDeskModel_isSign_9 f_TrustDeskModel_201_13 ?_
              refine mv_iload_n d_TrustDeskModel_isSign_12 rfl rfl ?_
              have := mz_hi v68
              refine mv_icmp_neZ (tgt := 20) (a := v68.toInt) (b := 43) d_TrustDeskModel_isSign_13 (by decide) rfl (by decide) (fun b75 => ?_) (fun b75 => absurd b75 (by omega))
              refine mv_iconst (v := 0) d_TrustDeskModel_isSign_20 (by decide) ?_
              refine mv_iret d_TrustDeskModel_isSign_21 rfl (by decide) ?_
              refine mv_istore_n (lv' := [(1, .int 0), (0, .ref o0)]) d_TrustDeskModel_sum_35 rfl (by decide) rfl ?_
              refine mv_aload_n d_TrustDeskModel_sum_36 rfl rfl ?_
              obtain ⟨_, b82, -⟩ := I_13.1 _ _ h_q0_13
              refine mv_callV (kc' := 0) (ks' := 0) (As := []) (st9 := [.ref o0]) d_TrustDeskModel_sum_37 lV_TrustDeskModel_237 b82 rfl (tc_TrustDeskModel_next_x (d := (d + 18)) (x9 := x9) (o0 := o0) h_q0_13 kKR_13 I_13.start) rfl (Nat.le_of_ble_eq_true rfl) (Nat.le_of_ble_eq_true rfl) (Nat.le_of_ble_eq_true rfl) (hst := rfl) (fun b76r M77 n78 b76 => ?_)
              obtain ⟨T79, J80, rfl, R83, f84, f85⟩ := b76
              have I81 := I_13.call J80 (tm_sub (by decide)) (Or.inl rfl)
              have t86 := J80.up h_q0_13
              have := (rv_c I_13 J80 (I_13.up h_o0) (k := 19) rfl)
              have := (rv_c I_13 J80 (I_13.up h_o0) (k := 22) rfl)
              have h88 : rv M_13 o0 16 + 1 ≤ rv M_13 o0 15 := (by have := kKR_13.1 15 _ _ rfl; have := kKR_13.1 16 _ _ rfl; have := kKR_13.1 19 _ _ rfl; have := kKE_13.f yS; omega)
              have E87 : rE M0 M77 o0 1 1 := kKE_13.next f84 f85 (rv_c I_13 J80 (I_13.up h_o0) (k := 19) rfl) (rE_ha I_13 J80 (I_13.up h_o0) (by decide)) (e := 1) h88 (by decide)
              have q89 := J80.keep h_q0_13 (by decide) q15
              refine mv_aload_n d_TrustDeskModel_sum_40 rfl rfl ?_
              obtain ⟨_, b96, -⟩ := I81.1 _ _ t86
              refine mv_callV (kc' := 0) (ks' := 0) (As := []) (st9 := [.ref o0]) d_TrustDeskModel_sum_41 lV_TrustDeskModel_297 b96 rfl (tc_TrustDeskModel_product_q5_x (d := d) (x9 := x9) (o0 := o0) t86 R83 E87.1 (by have := R83.1 15 _ _ rfl; have := R83.1 16 _ _ rfl; have := R83.1 19 _ _ rfl; have := E87.f yS; omega) (by have := R83.1 15 _ _ rfl; have := R83.1 16 _ _ rfl; have := R83.1 19 _ _ rfl; have := E87.f yS; omega) I81.start) rfl (Nat.le_of_ble_eq_true rfl) (Nat.le_of_ble_eq_true rfl) (Nat.le_of_ble_eq_true rfl) (hst := rfl) (fun b90r M91 n92 b90 => ?_)
              obtain ⟨T93, J94, rfl, R97, f98, f99⟩ := b90
              have I95 := I81.call J94 (tm_sub (by decide)) (Or.inl rfl)
              have t100 := J94.up t86
              have E101 : rE M0 M91 o0 2 1 := E87.trans f98 (by decide) (yR.2 5 _ _ rfl 44).1 (by decide) (by decide)
              have := f98.w
              refine mv_aload_n d_TrustDeskModel_sum_44 rfl rfl ?_
              refine mv_iload_n d_TrustDeskModel_sum_45 rfl rfl ?_
              refine mv_if_eq_t (tgt := 53) d_TrustDeskModel_sum_46 (by decide) (by decide) ?_
              refine mv_bipush (v := (-2)) d_TrustDeskModel_sum_53 (by decide) ?_
              obtain ⟨_, b108, -⟩ := I95.1 _ _ t100
              refine mv_callV (kc' := 0) (ks' := 0) (As := [.int (-2)]) (st9 := [.int (-2), .ref o0]) d_TrustDeskModel_sum_55 lV_TrustDeskModel_279 b108 rfl (tc_TrustDeskModel_emits_x (d := (d + 18)) (x9 := x9) (o0 := o0) (x1 := (-2)) t100 R97 (by have := R97.1 15 _ _ rfl; have := R97.1 16 _ _ rfl; have := R97.1 19 _ _ rfl; have := E101.f yS; omega) (by decide) I95.start) rfl (Nat.le_of_ble_eq_true rfl) (Nat.le_of_ble_eq_true rfl) (Nat.le_of_ble_eq_true rfl) (hst := rfl) (fun b102r M103 n104 b102 => ?_)
              obtain ⟨T105, J106, rfl, R109, f110⟩ := b102
              have I107 := I95.call J106 (tm_sub (by decide)) (Or.inl rfl)
              have t111 := J106.up t100
              have := (rv_c I95 J106 (I95.up h_o0) (k := 16) rfl)
              have := (rv_c I95 J106 (I95.up h_o0) (k := 17) rfl)
              have := (rv_c I95 J106 (I95.up h_o0) (k := 19) rfl)
              have := (rv_c I95 J106 (I95.up h_o0) (k := 22) rfl)
              have E112 : rE M0 M103 o0 1 0 := E101.emit f110 (rE_hv I95 J106 (I95.up h_o0) 15 19 (by decide)) (yR.2 5 _ _ rfl 44).1 (by decide) (Or.inr (Or.inr ⟨by decide, by decide, by decide, by decide⟩)) (by decide)
              refine mv_goto (tgt := 4) d_TrustDeskModel_sum_58 (by decide) ?_
              refine mv_locals (lv' := [(0, .ref o0)]) (by intro q hq; simp only [List.mem_cons, List.not_mem_nil, or_false] at hq; rcases hq with rfl <;> rfl) ?_
              exact (ih13 T105 M103 n104 I107 t111 (by have := R109.1 15 _ _ rfl; have := R109.1 16 _ _ rfl; have := R109.1 19 _ _ rfl; have := E112.f yS; first | omega | decide) R109 E112 (by have := R109.1 15 _ _ rfl; have := R109.1 16 _ _ rfl; have := R109.1 19 _ _ rfl; have := E112.f yS; omega))
          · refine mv_iconst (v := 1) d_TrustDeskModel_isSign_16 (by decide) ?_
            refine mv_goto (tgt := 21) d_TrustDeskModel_isSign_17 (by decide) ?_
            refine mv_iret d_TrustDeskModel_isSign_21 rfl (by decide) ?_
            refine mv_if_ne_t (tgt := 29) d_TrustDeskModel_sum_17 (by decide) (by decide) ?_
            refine mv_aload_n d_TrustDeskModel_sum_29 rfl rfl ?_
            refine mv_bipush (v := 43) d_TrustDeskModel_sum_30 (by decide) ?_
            obtain ⟨_, b113, -⟩ := I_13.1 _ _ h_q0_13
            refine mv_callV (kc1 := 0) (ks1 := 0) (kc' := 0) (ks' := 0) (As := [.int 43]) (st9 := [.int 43, .ref o0]) d_TrustDeskModel_sum_32 lV_TrustDeskModel_234 b113 rfl (mj_enter (by decide) (Nat.le_of_ble_eq_true rfl) ?_) rfl (Nat.le_of_ble_eq_true rfl) (Nat.le_of_ble_eq_true rfl) (Nat.le_of_ble_eq_true rfl) (hst := rfl) (fun _ _ _ h => h)
            refine mv_aload_n d_TrustDeskModel_isSign_0 rfl rfl ?_
            refine tr_getK (k := 17) q19 d_TrustDeskModel_isSign_1 f_TrustDeskModel_198_13 ?_
            refine mv_iconst (v := 4) d_TrustDeskModel_isSign_4 (by decide) ?_
            have := mz_hi v20
            refine mv_icmp_neZ (tgt := 20) (a := v20.toInt) (b := 4) d_TrustDeskModel_isSign_5 (by decide) rfl (by decide) (fun b114 => absurd b114 (by omega)) (fun b114 => ?_)
            refine mv_aload_n d_TrustDeskModel_isSign_8 rfl rfl ?_
            refine tr_getK (k := 18) q67 d_TrustDeskModel_isSign_9 f_TrustDeskModel_201_13 ?_
            refine mv_iload_n d_TrustDeskModel_isSign_12 rfl rfl ?_
            have := mz_hi v68
            refine mv_icmp_neZ (tgt := 20) (a := v68.toInt) (b := 43) d_TrustDeskModel_isSign_13 (by decide) rfl (by decide) (fun b115 => absurd b115 (by omega)) (fun b115 => ?_)
            refine mv_iconst (v := 1) d_TrustDeskModel_isSign_16 (by decide) ?_
            refine mv_goto (tgt := 21) d_TrustDeskModel_isSign_17 (by decide) ?_
            refine mv_iret d_TrustDeskModel_isSign_21 rfl (by decide) ?_
            refine mv_istore_n (lv' := [(1, .int 1), (0, .ref o0)]) d_TrustDeskModel_sum_35 rfl (by decide) rfl ?_
            refine mv_aload_n d_TrustDeskModel_sum_36 rfl rfl ?_
            obtain ⟨_, b122, -⟩ := I_13.1 _ _ h_q0_13
            refine mv_callV (kc' := 0) (ks' := 0) (As := []) (st9 := [.ref o0]) d_TrustDeskModel_sum_37 lV_TrustDeskModel_237 b122 rfl (tc_TrustDeskModel_next_x (d := (d + 18)) (x9 := x9) (o0 := o0) h_q0_13 kKR_13 I_13.start) rfl (Nat.le_of_ble_eq_true rfl) (Nat.le_of_ble_eq_true rfl) (Nat.le_of_ble_eq_true rfl) (hst := rfl) (fun b116r M117 n118 b116 => ?_)
            obtain ⟨T119, J120, rfl, R123, f124, f125⟩ := b116
            have I121 := I_13.call J120 (tm_sub (by decide)) (Or.inl rfl)
            have t126 := J120.up h_q0_13
            have := (rv_c I_13 J120 (I_13.up h_o0) (k := 19) rfl)
            have := (rv_c I_13 J120 (I_13.up h_o0) (k := 22) rfl)
            have h128 : rv M_13 o0 16 + 1 ≤ rv M_13 o0 15 := (by have := kKR_13.1 15 _ _ rfl; have := kKR_13.1 16 _ _ rfl; have := kKR_13.1 19 _ _ rfl; have := kKE_13.f yS; omega)
            have E127 : rE M0 M117 o0 1 1 := kKE_13.next f124 f125 (rv_c I_13 J120 (I_13.up h_o0) (k := 19) rfl) (rE_ha I_13 J120 (I_13.up h_o0) (by decide)) (e := 1) h128 (by decide)
            have q129 := J120.keep h_q0_13 (by decide) q15
            refine mv_aload_n d_TrustDeskModel_sum_40 rfl rfl ?_
            obtain ⟨_, b136, -⟩ := I121.1 _ _ t126
            refine mv_callV (kc' := 0) (ks' := 0) (As := []) (st9 := [.ref o0]) d_TrustDeskModel_sum_41 lV_TrustDeskModel_297 b136 rfl (tc_TrustDeskModel_product_q5_x (d := d) (x9 := x9) (o0 := o0) t126 R123 E127.1 (by have := R123.1 15 _ _ rfl; have := R123.1 16 _ _ rfl; have := R123.1 19 _ _ rfl; have := E127.f yS; omega) (by have := R123.1 15 _ _ rfl; have := R123.1 16 _ _ rfl; have := R123.1 19 _ _ rfl; have := E127.f yS; omega) I121.start) rfl (Nat.le_of_ble_eq_true rfl) (Nat.le_of_ble_eq_true rfl) (Nat.le_of_ble_eq_true rfl) (hst := rfl) (fun b130r M131 n132 b130 => ?_)
            obtain ⟨T133, J134, rfl, R137, f138, f139⟩ := b130
            have I135 := I121.call J134 (tm_sub (by decide)) (Or.inl rfl)
            have t140 := J134.up t126
            have E141 : rE M0 M131 o0 2 1 := E127.trans f138 (by decide) (yR.2 5 _ _ rfl 44).1 (by decide) (by decide)
            have := f138.w
            refine mv_aload_n d_TrustDeskModel_sum_44 rfl rfl ?_
            refine mv_iload_n d_TrustDeskModel_sum_45 rfl rfl ?_
            refine mv_if_eq_f (tgt := 53) d_TrustDeskModel_sum_46 (by decide) (by decide) ?_
            refine mv_iconst (v := (-1)) d_TrustDeskModel_sum_49 (by decide) ?_
            refine mv_goto (tgt := 55) d_TrustDeskModel_sum_50 (by decide) ?_
            obtain ⟨_, b148, -⟩ := I135.1 _ _ t140
            refine mv_callV (kc' := 0) (ks' := 0) (As := [.int (-1)]) (st9 := [.int (-1), .ref o0]) d_TrustDeskModel_sum_55 lV_TrustDeskModel_279 b148 rfl (tc_TrustDeskModel_emits_x (d := (d + 18)) (x9 := x9) (o0 := o0) (x1 := (-1)) t140 R137 (by have := R137.1 15 _ _ rfl; have := R137.1 16 _ _ rfl; have := R137.1 19 _ _ rfl; have := E141.f yS; omega) (by decide) I135.start) rfl (Nat.le_of_ble_eq_true rfl) (Nat.le_of_ble_eq_true rfl) (Nat.le_of_ble_eq_true rfl) (hst := rfl) (fun b142r M143 n144 b142 => ?_)
            obtain ⟨T145, J146, rfl, R149, f150⟩ := b142
            have I147 := I135.call J146 (tm_sub (by decide)) (Or.inl rfl)
            have t151 := J146.up t140
            have := (rv_c I135 J146 (I135.up h_o0) (k := 16) rfl)
            have := (rv_c I135 J146 (I135.up h_o0) (k := 17) rfl)
            have := (rv_c I135 J146 (I135.up h_o0) (k := 19) rfl)
            have := (rv_c I135 J146 (I135.up h_o0) (k := 22) rfl)
            have E152 : rE M0 M143 o0 1 0 := E141.emit f150 (rE_hv I135 J146 (I135.up h_o0) 15 19 (by decide)) (yR.2 5 _ _ rfl 44).1 (by decide) (Or.inr (Or.inr ⟨by decide, by decide, by decide, by decide⟩)) (by decide)
            refine mv_goto (tgt := 4) d_TrustDeskModel_sum_58 (by decide) ?_
            refine mv_locals (lv' := [(0, .ref o0)]) (by intro q hq; simp only [List.mem_cons, List.not_mem_nil, or_false] at hq; rcases hq with rfl <;> rfl) ?_
            exact (ih13 T145 M143 n144 I147 t151 (by have := R149.1 15 _ _ rfl; have := R149.1 16 _ _ rfl; have := R149.1 19 _ _ rfl; have := E152.f yS; first | omega | decide) R149 E152 (by have := R149.1 15 _ _ rfl; have := R149.1 16 _ _ rfl; have := R149.1 19 _ _ rfl; have := E152.f yS; omega))
  exact mv_less (Nat.zero_le _) (Nat.zero_le _) (L4_13 4294967296 T4 M2 n3 I6 t11 (by have := R8.1 15 _ _ rfl; have := R8.1 16 _ _ rfl; have := R8.1 19 _ _ rfl; have := E12.f yS; first | omega | decide) R8 E12 (by have := R8.1 15 _ _ rfl; have := R8.1 16 _ _ rfl; have := R8.1 19 _ _ rfl; have := E12.f yS; omega))
def w_TrustDeskModel_compares_q5_x : List Nat := [1315, 1316, 1317, 1318, 1319, 1320, 1322, 20004, 20005]
theorem tc_TrustDeskModel_compares_q5_x {g : mj_G} {l : Launch} {d : Nat} {T0 : tm_H} {M0 : mj_M} {n0 x9 : Nat} {o0 : Nat} (h_o0 : T0 o0 = some (0, 13, 0)) (yR : rI M0 o0) (yT : rT M0 o0) (yS : rv M0 o0 19 = 0 → ra M0 o0 5 44 ≤ rv M0 o0 16) (yL : rv M0 o0 19 ≠ 0 ∨ (0 ≤ rv M0 o0 22 ∧ rv M0 o0 22 ≤ 4)) (I0 : tm_I tm_FT (tm_in w_TrustDeskModel_compares_q5_x) x9 T0 M0 n0 T0 M0 n0) : mj_Met g l kY_TrustDeskModel_compares (d + 21) [.ref o0] M0 n0 0 0 (tm_Q tm_FT (tm_in w_TrustDeskModel_compares_q5_x) x9 T0 M0 n0 (fun r _ M => r = none ∧ rI M o0 ∧ (rE M0 M o0 1 0) ∧ (rv M o0 19 = 0 → rv M o0 22 = rv M0 o0 22))) := by
  refine mj_enter (by decide) (Nat.le_of_ble_eq_true rfl) ?_
  have yE0 := rE.rf yT
  refine mv_aload_n d_TrustDeskModel_compares_0 rfl rfl ?_
  obtain ⟨_, b7, -⟩ := I0.1 _ _ h_o0
  refine mv_callV (kc' := 0) (ks' := 0) (As := []) (st9 := [.ref o0]) d_TrustDeskModel_compares_1 lV_TrustDeskModel_288 b7 rfl (tc_TrustDeskModel_sum_q5_x (d := d) (x9 := x9) (o0 := o0) h_o0 yR yE0.1 (by have := yR.1 15 _ _ rfl; have := yR.1 16 _ _ rfl; have := yR.1 19 _ _ rfl; have := yE0.f yS; omega) (by have := yR.1 15 _ _ rfl; have := yR.1 16 _ _ rfl; have := yR.1 19 _ _ rfl; have := yE0.f yS; omega) I0.start) rfl (Nat.le_of_ble_eq_true rfl) (Nat.le_of_ble_eq_true rfl) (Nat.le_of_ble_eq_true rfl) (hst := rfl) (fun b1r M2 n3 b1 => ?_)
  obtain ⟨T4, J5, rfl, R8, f9, f10⟩ := b1
  have I6 := I0.call J5 (tm_sub (by decide)) (Or.inl rfl)
  have t11 := J5.up h_o0
  have E12 : rE M0 M2 o0 1 0 := yE0.trans f9 (by decide) (yR.2 5 _ _ rfl 44).1 (by decide) (by decide)
  have := f9.w
  refine mv_aload_n d_TrustDeskModel_compares_4 rfl rfl ?_
  obtain ⟨_, b13, -⟩ := I6.1 _ _ t11
  refine mv_callV (kc1 := 0) (ks1 := 0) (kc' := 0) (ks' := 0) (As := []) (st9 := [.ref o0]) d_TrustDeskModel_compares_5 lV_TrustDeskModel_230 b13 rfl (mj_enter (by decide) (Nat.le_of_ble_eq_true rfl) ?_) rfl (Nat.le_of_ble_eq_true rfl) (Nat.le_of_ble_eq_true rfl) (Nat.le_of_ble_eq_true rfl) (hst := rfl) (fun _ _ _ h => h)
  refine mv_aload_n d_TrustDeskModel_isWell_0 rfl rfl ?_
  obtain ⟨v15, q14⟩ := tm_atI I6 t11 (k := 19) rfl
  refine tr_getK q14 d_TrustDeskModel_isWell_1 f_TrustDeskModel_224_13 ?_
  have := R8.f (k := 19) q14 rfl
  have := tm_rv q14
  have := mz_hi v15
  refine mv_if_neZ (tgt := 11) (a := v15.toInt) d_TrustDeskModel_isWell_4 (by decide) rfl (fun b16 => ?_) (fun b16 => ?_)
  · refine mv_iconst (v := 0) d_TrustDeskModel_isWell_11 (by decide) ?_
    refine mv_iret d_TrustDeskModel_isWell_12 rfl (by decide) ?_
    refine mv_if_ne_f (tgt := 12) d_TrustDeskModel_compares_8 (by decide) (by decide) ?_
    exact mv_vret d_TrustDeskModel_compares_11 rfl ⟨_, I6, rfl, R8, E12, (by have := R8.1 15 _ _ rfl; have := R8.1 16 _ _ rfl; have := R8.1 19 _ _ rfl; have := E12.f yS; omega)⟩
  · refine mv_iconst (v := 1) d_TrustDeskModel_isWell_7 (by decide) ?_
    refine mv_goto (tgt := 12) d_TrustDeskModel_isWell_8 (by decide) ?_
    refine mv_iret d_TrustDeskModel_isWell_12 rfl (by decide) ?_
    refine mv_if_ne_t (tgt := 12) d_TrustDeskModel_compares_8 (by decide) (by decide) ?_
    refine mv_aload_n d_TrustDeskModel_compares_12 rfl rfl ?_
    refine mv_bipush (v := 60) d_TrustDeskModel_compares_13 (by decide) ?_
    obtain ⟨_, b17, -⟩ := I6.1 _ _ t11
    refine mv_callV (kc1 := 0) (ks1 := 0) (kc' := 0) (ks' := 0) (As := [.int 60]) (st9 := [.int 60, .ref o0]) d_TrustDeskModel_compares_15 lV_TrustDeskModel_234 b17 rfl (mj_enter (by decide) (Nat.le_of_ble_eq_true rfl) ?_) rfl (Nat.le_of_ble_eq_true rfl) (Nat.le_of_ble_eq_true rfl) (Nat.le_of_ble_eq_true rfl) (hst := rfl) (fun _ _ _ h => h)
    refine mv_aload_n d_TrustDeskModel_isSign_0 rfl rfl ?_
    obtain ⟨v19, q18⟩ := tm_atI I6 t11 (k := 17) rfl
    refine tr_getK q18 d_TrustDeskModel_isSign_1 f_TrustDeskModel_198_13 ?_
    have := tm_rv q18
    refine mv_iconst (v := 4) d_TrustDeskModel_isSign_4 (by decide) ?_
    have := mz_hi v19
    refine mv_icmp_neZ (tgt := 20) (a := v19.toInt) (b := 4) d_TrustDeskModel_isSign_5 (by decide) rfl (by decide) (fun b20 => ?_) (fun b20 => ?_)
    · refine mv_iconst (v := 0) d_TrustDeskModel_isSign_20 (by decide) ?_
      refine mv_iret d_TrustDeskModel_isSign_21 rfl (by decide) ?_
      refine mv_if_eq_t (tgt := 26) d_TrustDeskModel_compares_18 (by decide) (by decide) ?_
      refine mv_aload_n d_TrustDeskModel_compares_26 rfl rfl ?_
      refine mv_bipush (v := 62) d_TrustDeskModel_compares_27 (by decide) ?_
      obtain ⟨_, b21, -⟩ := I6.1 _ _ t11
      refine mv_callV (kc1 := 0) (ks1 := 0) (kc' := 0) (ks' := 0) (As := [.int 62]) (st9 := [.int 62, .ref o0]) d_TrustDeskModel_compares_29 lV_TrustDeskModel_234 b21 rfl (mj_enter (by decide) (Nat.le_of_ble_eq_true rfl) ?_) rfl (Nat.le_of_ble_eq_true rfl) (Nat.le_of_ble_eq_true rfl) (Nat.le_of_ble_eq_true rfl) (hst := rfl) (fun _ _ _ h => h)
      refine mv_aload_n d_TrustDeskModel_isSign_0 rfl rfl ?_
      refine tr_getK (k := 17) q18 d_TrustDeskModel_isSign_1 f_TrustDeskModel_198_13 ?_
      refine mv_iconst (v := 4) d_TrustDeskModel_isSign_4 (by decide) ?_
      have := mz_hi v19
      refine mv_icmp_neZ (tgt := 20) (a := v19.toInt) (b := 4) d_TrustDeskModel_isSign_5 (by decide) rfl (by decide) (fun b22 => ?_) (fun b22 => ?_)
      · refine mv_iconst (v := 0) d_TrustDeskModel_isSign_20 (by decide) ?_
        refine mv_iret d_TrustDeskModel_isSign_21 rfl (by decide) ?_
        refine mv_if_eq_t (tgt := 40) d_TrustDeskModel_compares_32 (by decide) (by decide) ?_
        refine mv_aload_n d_TrustDeskModel_compares_40 rfl rfl ?_
        refine mv_bipush (v := 61) d_TrustDeskModel_compares_41 (by decide) ?_
        obtain ⟨_, b23, -⟩ := I6.1 _ _ t11
        refine mv_callV (kc1 := 0) (ks1 := 0) (kc' := 0) (ks' := 0) (As := [.int 61]) (st9 := [.int 61, .ref o0]) d_TrustDeskModel_compares_43 lV_TrustDeskModel_234 b23 rfl (mj_enter (by decide) (Nat.le_of_ble_eq_true rfl) ?_) rfl (Nat.le_of_ble_eq_true rfl) (Nat.le_of_ble_eq_true rfl) (Nat.le_of_ble_eq_true rfl) (hst := rfl) (fun _ _ _ h => h)
        refine mv_aload_n d_TrustDeskModel_isSign_0 rfl rfl ?_
        refine tr_getK (k := 17) q18 d_TrustDeskModel_isSign_1 f_TrustDeskModel_198_13 ?_
        refine mv_iconst (v := 4) d_TrustDeskModel_isSign_4 (by decide) ?_
        have := mz_hi v19
        refine mv_icmp_neZ (tgt := 20) (a := v19.toInt) (b := 4) d_TrustDeskModel_isSign_5 (by decide) rfl (by decide) (fun b24 => ?_) (fun b24 => ?_)
        · refine mv_iconst (v := 0) d_TrustDeskModel_isSign_20 (by decide) ?_
          refine mv_iret d_TrustDeskModel_isSign_21 rfl (by decide) ?_
          refine mv_if_eq_t (tgt := 54) d_TrustDeskModel_compares_46 (by decide) (by decide) ?_
          refine mv_iconst (v := 0) d_TrustDeskModel_compares_54 (by decide) ?_
          refine mv_istore_n (lv' := [(1, .int 0), (0, .ref o0)]) d_TrustDeskModel_compares_55 rfl (by decide) rfl ?_
          refine mv_iload_n d_TrustDeskModel_compares_56 rfl rfl ?_
          refine mv_if_ne_f (tgt := 65) d_TrustDeskModel_compares_57 (by decide) (by decide) ?_
          refine mv_aload_n d_TrustDeskModel_compares_60 rfl rfl ?_
          refine mv_iconst (v := 1) d_TrustDeskModel_compares_61 (by decide) ?_
          obtain ⟨_, b31, -⟩ := I6.1 _ _ t11
          refine mv_callV (kc' := 0) (ks' := 0) (As := [.int 1]) (st9 := [.int 1, .ref o0]) d_TrustDeskModel_compares_62 lV_TrustDeskModel_240 b31 rfl (tc_TrustDeskModel_fails_x (d := (d + 20)) (x9 := x9) (o0 := o0) (x1 := 1) t11 R8 (by decide) I6.start) rfl (Nat.le_of_ble_eq_true rfl) (Nat.le_of_ble_eq_true rfl) (Nat.le_of_ble_eq_true rfl) (hst := rfl) (fun b25r M26 n27 b25 => ?_)
          obtain ⟨T28, J29, rfl, R32, f33⟩ := b25
          have I30 := I6.call J29 (tm_sub (by decide)) (Or.inl rfl)
          have t34 := J29.up t11
          have := (rv_c I6 J29 (I6.up h_o0) (k := 16) rfl)
          have := (rv_c I6 J29 (I6.up h_o0) (k := 17) rfl)
          have := (rv_c I6 J29 (I6.up h_o0) (k := 22) rfl)
          have E35 : rE M0 M26 o0 1 0 := E12.fails (rE_hv I6 J29 (I6.up h_o0) 15 18 (by decide)) (rE_ha I6 J29 (I6.up h_o0) (by decide)) f33 1 0
          have q36 := J29.keep t11 (by decide) q18
          refine mv_aload_n d_TrustDeskModel_compares_65 rfl rfl ?_
          obtain ⟨_, b37, -⟩ := I30.1 _ _ t34
          refine mv_callV (kc1 := 0) (ks1 := 0) (kc' := 0) (ks' := 0) (As := []) (st9 := [.ref o0]) d_TrustDeskModel_compares_66 lV_TrustDeskModel_230 b37 rfl (mj_enter (by decide) (Nat.le_of_ble_eq_true rfl) ?_) rfl (Nat.le_of_ble_eq_true rfl) (Nat.le_of_ble_eq_true rfl) (Nat.le_of_ble_eq_true rfl) (hst := rfl) (fun _ _ _ h => h)
          refine mv_aload_n d_TrustDeskModel_isWell_0 rfl rfl ?_
          obtain ⟨v39, q38⟩ := tm_atI I30 t34 (k := 19) rfl
          refine tr_getK q38 d_TrustDeskModel_isWell_1 f_TrustDeskModel_224_13 ?_
          have := R32.f (k := 19) q38 rfl
          have := tm_rv q38
          have := mz_hi v39
          refine mv_if_neZ (tgt := 11) (a := v39.toInt) d_TrustDeskModel_isWell_4 (by decide) rfl (fun b40 => ?_) (fun b40 => ?_)
          · refine mv_iconst (v := 0) d_TrustDeskModel_isWell_11 (by decide) ?_
            refine mv_iret d_TrustDeskModel_isWell_12 rfl (by decide) ?_
            refine mv_if_ne_f (tgt := 73) d_TrustDeskModel_compares_69 (by decide) (by decide) ?_
            exact mv_vret d_TrustDeskModel_compares_72 rfl ⟨_, I30, rfl, R32, E35, (by have := R32.1 15 _ _ rfl; have := R32.1 16 _ _ rfl; have := R32.1 19 _ _ rfl; have := E35.f yS; omega)⟩
          · refine mv_iconst (v := 1) d_TrustDeskModel_isWell_7 (by decide) ?_
            refine mv_goto (tgt := 12) d_TrustDeskModel_isWell_8 (by decide) ?_
            refine mv_iret d_TrustDeskModel_isWell_12 rfl (by decide) ?_
            refine mv_if_ne_t (tgt := 73) d_TrustDeskModel_compares_69 (by decide) (by decide) ?_
            refine mv_aload_n d_TrustDeskModel_compares_73 rfl rfl ?_
            obtain ⟨_, b47, -⟩ := I30.1 _ _ t34
            refine mv_callV (kc' := 0) (ks' := 0) (As := []) (st9 := [.ref o0]) d_TrustDeskModel_compares_74 lV_TrustDeskModel_237 b47 rfl (tc_TrustDeskModel_next_x (d := (d + 19)) (x9 := x9) (o0 := o0) t34 R32 I30.start) rfl (Nat.le_of_ble_eq_true rfl) (Nat.le_of_ble_eq_true rfl) (Nat.le_of_ble_eq_true rfl) (hst := rfl) (fun b41r M42 n43 b41 => ?_)
            obtain ⟨T44, J45, rfl, R48, f49, f50⟩ := b41
            have I46 := I30.call J45 (tm_sub (by decide)) (Or.inl rfl)
            have t51 := J45.up t34
            have := (rv_c I30 J45 (I30.up h_o0) (k := 19) rfl)
            have := (rv_c I30 J45 (I30.up h_o0) (k := 22) rfl)
            have h53 : rv M26 o0 16 + 1 ≤ rv M26 o0 15 := (by have := R32.1 15 _ _ rfl; have := R32.1 16 _ _ rfl; have := R32.1 19 _ _ rfl; have := E35.f yS; omega)
            have E52 : rE M0 M42 o0 1 1 := E35.next f49 f50 (rv_c I30 J45 (I30.up h_o0) (k := 19) rfl) (rE_ha I30 J45 (I30.up h_o0) (by decide)) (e := 1) h53 (by decide)
            have q54 := J45.keep t34 (by decide) q38
            refine mv_aload_n d_TrustDeskModel_compares_77 rfl rfl ?_
            obtain ⟨_, b61, -⟩ := I46.1 _ _ t51
            refine mv_callV (kc' := 0) (ks' := 0) (As := []) (st9 := [.ref o0]) d_TrustDeskModel_compares_78 lV_TrustDeskModel_288 b61 rfl (tc_TrustDeskModel_sum_q5_x (d := d) (x9 := x9) (o0 := o0) t51 R48 E52.1 (by have := R48.1 15 _ _ rfl; have := R48.1 16 _ _ rfl; have := R48.1 19 _ _ rfl; have := E52.f yS; omega) (by have := R48.1 15 _ _ rfl; have := R48.1 16 _ _ rfl; have := R48.1 19 _ _ rfl; have := E52.f yS; omega) I46.start) rfl (Nat.le_of_ble_eq_true rfl) (Nat.le_of_ble_eq_true rfl) (Nat.le_of_ble_eq_true rfl) (hst := rfl) (fun b55r M56 n57 b55 => ?_)
            obtain ⟨T58, J59, rfl, R62, f63, f64⟩ := b55
            have I60 := I46.call J59 (tm_sub (by decide)) (Or.inl rfl)
            have t65 := J59.up t51
            have E66 : rE M0 M56 o0 2 1 := E52.trans f63 (by decide) (yR.2 5 _ _ rfl 44).1 (by decide) (by decide)
            have := f63.w
            refine mv_aload_n d_TrustDeskModel_compares_81 rfl rfl ?_
            refine mv_iload_n d_TrustDeskModel_compares_82 rfl rfl ?_
            obtain ⟨_, b73, -⟩ := I60.1 _ _ t65
            refine mv_callV (kc' := 0) (ks' := 0) (As := [.int 0]) (st9 := [.int 0, .ref o0]) d_TrustDeskModel_compares_83 lV_TrustDeskModel_279 b73 rfl (tc_TrustDeskModel_emits_x (d := (d + 19)) (x9 := x9) (o0 := o0) (x1 := 0) t65 R62 (by have := R62.1 15 _ _ rfl; have := R62.1 16 _ _ rfl; have := R62.1 19 _ _ rfl; have := E66.f yS; omega) (by decide) I60.start) rfl (Nat.le_of_ble_eq_true rfl) (Nat.le_of_ble_eq_true rfl) (Nat.le_of_ble_eq_true rfl) (hst := rfl) (fun b67r M68 n69 b67 => ?_)
            obtain ⟨T70, J71, rfl, R74, f75⟩ := b67
            have I72 := I60.call J71 (tm_sub (by decide)) (Or.inl rfl)
            have t76 := J71.up t65
            have := (rv_c I60 J71 (I60.up h_o0) (k := 16) rfl)
            have := (rv_c I60 J71 (I60.up h_o0) (k := 17) rfl)
            have := (rv_c I60 J71 (I60.up h_o0) (k := 19) rfl)
            have := (rv_c I60 J71 (I60.up h_o0) (k := 22) rfl)
            have E77 : rE M0 M68 o0 3 0 := E66.emit f75 (rE_hv I60 J71 (I60.up h_o0) 15 19 (by decide)) (yR.2 5 _ _ rfl 44).1 (by decide) (Or.inl ⟨by have := R62.1 15 _ _ rfl; have := R62.1 16 _ _ rfl; have := R62.1 19 _ _ rfl; have := E66.f yS; omega, by decide⟩) (by decide)
            exact mv_vret d_TrustDeskModel_compares_86 rfl ⟨_, I72, rfl, R74, E77.vac (by have := R74.1 15 _ _ rfl; have := R74.1 16 _ _ rfl; have := R74.1 19 _ _ rfl; have := E77.f yS; omega) 1 0, (by have := R74.1 15 _ _ rfl; have := R74.1 16 _ _ rfl; have := R74.1 19 _ _ rfl; have := E77.f yS; omega)⟩
        · refine mv_aload_n d_TrustDeskModel_isSign_8 rfl rfl ?_
          obtain ⟨v79, q78⟩ := tm_atI I6 t11 (k := 18) rfl
          refine tr_getK q78 d_TrustDeskModel_isSign_9 f_TrustDeskModel_201_13 ?_
          have := R8.f (k := 18) q78 rfl
          have := tm_rv q78
          refine mv_iload_n d_TrustDeskModel_isSign_12 rfl rfl ?_
          have := mz_hi v79
          refine mv_icmp_neZ (tgt := 20) (a := v79.toInt) (b := 61) d_TrustDeskModel_isSign_13 (by decide) rfl (by decide) (fun b80 => ?_) (fun b80 => ?_)
          · refine mv_iconst (v := 0) d_TrustDeskModel_isSign_20 (by decide) ?_
            refine mv_iret d_TrustDeskModel_isSign_21 rfl (by decide) ?_
            refine mv_if_eq_t (tgt := 54) d_TrustDeskModel_compares_46 (by decide) (by decide) ?_
            refine mv_iconst (v := 0) d_TrustDeskModel_compares_54 (by decide) ?_
            refine mv_istore_n (lv' := [(1, .int 0), (0, .ref o0)]) d_TrustDeskModel_compares_55 rfl (by decide) rfl ?_
            refine mv_iload_n d_TrustDeskModel_compares_56 rfl rfl ?_
            refine mv_if_ne_f (tgt := 65) d_TrustDeskModel_compares_57 (by decide) (by decide) ?_
            refine mv_aload_n d_TrustDeskModel_compares_60 rfl rfl ?_
            refine mv_iconst (v := 1) d_TrustDeskModel_compares_61 (by decide) ?_
            obtain ⟨_, b87, -⟩ := I6.1 _ _ t11
            refine mv_callV (kc' := 0) (ks' := 0) (As := [.int 1]) (st9 := [.int 1, .ref o0]) d_TrustDeskModel_compares_62 lV_TrustDeskModel_240 b87 rfl (tc_TrustDeskModel_fails_x (d := (d + 20)) (x9 := x9) (o0 := o0) (x1 := 1) t11 R8 (by decide) I6.start) rfl (Nat.le_of_ble_eq_true rfl) (Nat.le_of_ble_eq_true rfl) (Nat.le_of_ble_eq_true rfl) (hst := rfl) (fun b81r M82 n83 b81 => ?_)
            obtain ⟨T84, J85, rfl, R88, f89⟩ := b81
            have I86 := I6.call J85 (tm_sub (by decide)) (Or.inl rfl)
            have t90 := J85.up t11
            have := (rv_c I6 J85 (I6.up h_o0) (k := 16) rfl)
            have := (rv_c I6 J85 (I6.up h_o0) (k := 17) rfl)
            have := (rv_c I6 J85 (I6.up h_o0) (k := 22) rfl)
            have E91 : rE M0 M82 o0 1 0 := E12.fails (rE_hv I6 J85 (I6.up h_o0) 15 18 (by decide)) (rE_ha I6 J85 (I6.up h_o0) (by decide)) f89 1 0
            have q92 := J85.keep t11 (by decide) q18
            have q93 := J85.keep t11 (by decide) q78
            refine mv_aload_n d_TrustDeskModel_compares_65 rfl rfl ?_
            obtain ⟨_, b94, -⟩ := I86.1 _ _ t90
            refine mv_callV (kc1 := 0) (ks1 := 0) (kc' := 0) (ks' := 0) (As := []) (st9 := [.ref o0]) d_TrustDeskModel_compares_66 lV_TrustDeskModel_230 b94 rfl (mj_enter (by decide) (Nat.le_of_ble_eq_true rfl) ?_) rfl (Nat.le_of_ble_eq_true rfl) (Nat.le_of_ble_eq_true rfl) (Nat.le_of_ble_eq_true rfl) (hst := rfl) (fun _ _ _ h => h)
            refine mv_aload_n d_TrustDeskModel_isWell_0 rfl rfl ?_
            obtain ⟨v96, q95⟩ := tm_atI I86 t90 (k := 19) rfl
            refine tr_getK q95 d_TrustDeskModel_isWell_1 f_TrustDeskModel_224_13 ?_
            have := R88.f (k := 19) q95 rfl
            have := tm_rv q95
            have := mz_hi v96
            refine mv_if_neZ (tgt := 11) (a := v96.toInt) d_TrustDeskModel_isWell_4 (by decide) rfl (fun b97 => ?_) (fun b97 => ?_)
            · refine mv_iconst (v := 0) d_TrustDeskModel_isWell_11 (by decide) ?_
              refine mv_iret d_TrustDeskModel_isWell_12 rfl (by decide) ?_
              refine mv_if_ne_f (tgt := 73) d_TrustDeskModel_compares_69 (by decide) (by decide) ?_
              exact mv_vret d_TrustDeskModel_compares_72 rfl ⟨_, I86, rfl, R88, E91, (by have := R88.1 15 _ _ rfl; have := R88.1 16 _ _ rfl; have := R88.1 19 _ _ rfl; have := E91.f yS; omega)⟩
            · refine mv_iconst (v := 1) d_TrustDeskModel_isWell_7 (by decide) ?_
              refine mv_goto (tgt := 12) d_TrustDeskModel_isWell_8 (by decide) ?_
              refine mv_iret d_TrustDeskModel_isWell_12 rfl (by decide) ?_
              refine mv_if_ne_t (tgt := 73) d_TrustDeskModel_compares_69 (by decide) (by decide) ?_
              refine mv_aload_n d_TrustDeskModel_compares_73 rfl rfl ?_
              obtain ⟨_, b104, -⟩ := I86.1 _ _ t90
              refine mv_callV (kc' := 0) (ks' := 0) (As := []) (st9 := [.ref o0]) d_TrustDeskModel_compares_74 lV_TrustDeskModel_237 b104 rfl (tc_TrustDeskModel_next_x (d := (d + 19)) (x9 := x9) (o0 := o0) t90 R88 I86.start) rfl (Nat.le_of_ble_eq_true rfl) (Nat.le_of_ble_eq_true rfl) (Nat.le_of_ble_eq_true rfl) (hst := rfl) (fun b98r M99 n100 b98 => ?_)
              obtain ⟨T101, J102, rfl, R105, f106, f107⟩ := b98
              have I103 := I86.call J102 (tm_sub (by decide)) (Or.inl rfl)
              have t108 := J102.up t90
              have := (rv_c I86 J102 (I86.up h_o0) (k := 19) rfl)
              have := (rv_c I86 J102 (I86.up h_o0) (k := 22) rfl)
              have h110 : rv M82 o0 16 + 1 ≤ rv M82 o0 15 := (by have := R88.1 15 _ _ rfl; have := R88.1 16 _ _ rfl; have := R88.1 19 _ _ rfl; have := E91.f yS; omega)
              have E109 : rE M0 M99 o0 1 1 := E91.next f106 f107 (rv_c I86 J102 (I86.up h_o0) (k := 19) rfl) (rE_ha I86 J102 (I86.up h_o0) (by decide)) (e := 1) h110 (by decide)
              have q111 := J102.keep t90 (by decide) q95
              refine mv_aload_n d_TrustDeskModel_compares_77 rfl rfl ?_
              obtain ⟨_, b118, -⟩ := I103.1 _ _ t108
              refine mv_callV (kc' := 0) (ks' := 0) (As := []) (st9 := [.ref o0]) d_TrustDeskModel_compares_78 lV_TrustDeskModel_288 b118 rfl (tc_TrustDeskModel_sum_q5_x (d := d) (x9 := x9) (o0 := o0) t108 R105 E109.1 (by have := R105.1 15 _ _ rfl; have := R105.1 16 _ _ rfl; have := R105.1 19 _ _ rfl; have := E109.f yS; omega) (by have := R105.1 15 _ _ rfl; have := R105.1 16 _ _ rfl; have := R105.1 19 _ _ rfl; have := E109.f yS; omega) I103.start) rfl (Nat.le_of_ble_eq_true rfl) (Nat.le_of_ble_eq_true rfl) (Nat.le_of_ble_eq_true rfl) (hst := rfl) (fun b112r M113 n114 b112 => ?_)
              obtain ⟨T115, J116, rfl, R119, f120, f121⟩ := b112
              have I117 := I103.call J116 (tm_sub (by decide)) (Or.inl rfl)
              have t122 := J116.up t108
              have E123 : rE M0 M113 o0 2 1 := E109.trans f120 (by decide) (yR.2 5 _ _ rfl 44).1 (by decide) (by decide)
              have := f120.w
              refine mv_aload_n d_TrustDeskModel_compares_81 rfl rfl ?_
              refine mv_iload_n d_TrustDeskModel_compares_82 rfl rfl ?_
              obtain ⟨_, b130, -⟩ := I117.1 _ _ t122
              refine mv_callV (kc' := 0) (ks' := 0) (As := [.int 0]) (st9 := [.int 0, .ref o0]) d_TrustDeskModel_compares_83 lV_TrustDeskModel_279 b130 rfl (tc_TrustDeskModel_emits_x (d := (d + 19)) (x9 := x9) (o0 := o0) (x1 := 0) t122 R119 (by have := R119.1 15 _ _ rfl; have := R119.1 16 _ _ rfl; have := R119.1 19 _ _ rfl; have := E123.f yS; omega) (by decide) I117.start) rfl (Nat.le_of_ble_eq_true rfl) (Nat.le_of_ble_eq_true rfl) (Nat.le_of_ble_eq_true rfl) (hst := rfl) (fun b124r M125 n126 b124 => ?_)
              obtain ⟨T127, J128, rfl, R131, f132⟩ := b124
              have I129 := I117.call J128 (tm_sub (by decide)) (Or.inl rfl)
              have t133 := J128.up t122
              have := (rv_c I117 J128 (I117.up h_o0) (k := 16) rfl)
              have := (rv_c I117 J128 (I117.up h_o0) (k := 17) rfl)
              have := (rv_c I117 J128 (I117.up h_o0) (k := 19) rfl)
              have := (rv_c I117 J128 (I117.up h_o0) (k := 22) rfl)
              have E134 : rE M0 M125 o0 3 0 := E123.emit f132 (rE_hv I117 J128 (I117.up h_o0) 15 19 (by decide)) (yR.2 5 _ _ rfl 44).1 (by decide) (Or.inl ⟨by have := R119.1 15 _ _ rfl; have := R119.1 16 _ _ rfl; have := R119.1 19 _ _ rfl; have := E123.f yS; omega, by decide⟩) (by decide)
              exact mv_vret d_TrustDeskModel_compares_86 rfl ⟨_, I129, rfl, R131, E134.vac (by have := R131.1 15 _ _ rfl; have := R131.1 16 _ _ rfl; have := R131.1 19 _ _ rfl; have := E134.f yS; omega) 1 0, (by have := R131.1 15 _ _ rfl; have := R131.1 16 _ _ rfl; have := R131.1 19 _ _ rfl; have := E134.f yS; omega)⟩
          · refine mv_iconst (v := 1) d_TrustDeskModel_isSign_16 (by decide) ?_
            refine mv_goto (tgt := 21) d_TrustDeskModel_isSign_17 (by decide) ?_
            refine mv_iret d_TrustDeskModel_isSign_21 rfl (by decide) ?_
            refine mv_if_eq_f (tgt := 54) d_TrustDeskModel_compares_46 (by decide) (by decide) ?_
            refine mv_bipush (v := (-6)) d_TrustDeskModel_compares_49 (by decide) ?_
            refine mv_goto (tgt := 55) d_TrustDeskModel_compares_51 (by decide) ?_
            refine mv_istore_n (lv' := [(1, .int (-6)), (0, .ref o0)]) d_TrustDeskModel_compares_55 rfl (by decide) rfl ?_
            refine mv_iload_n d_TrustDeskModel_compares_56 rfl rfl ?_
            refine mv_if_ne_t (tgt := 65) d_TrustDeskModel_compares_57 (by decide) (by decide) ?_
            refine mv_aload_n d_TrustDeskModel_compares_65 rfl rfl ?_
            obtain ⟨_, b135, -⟩ := I6.1 _ _ t11
            refine mv_callV (kc1 := 0) (ks1 := 0) (kc' := 0) (ks' := 0) (As := []) (st9 := [.ref o0]) d_TrustDeskModel_compares_66 lV_TrustDeskModel_230 b135 rfl (mj_enter (by decide) (Nat.le_of_ble_eq_true rfl) ?_) rfl (Nat.le_of_ble_eq_true rfl) (Nat.le_of_ble_eq_true rfl) (Nat.le_of_ble_eq_true rfl) (hst := rfl) (fun _ _ _ h => h)
            refine mv_aload_n d_TrustDeskModel_isWell_0 rfl rfl ?_
            refine tr_getK (k := 19) q14 d_TrustDeskModel_isWell_1 f_TrustDeskModel_224_13 ?_
            have := mz_hi v15
            refine mv_if_neZ (tgt := 11) (a := v15.toInt) d_TrustDeskModel_isWell_4 (by decide) rfl (fun b136 => absurd b136 (by omega)) (fun b136 => ?_)
            refine mv_iconst (v := 1) d_TrustDeskModel_isWell_7 (by decide) ?_
            refine mv_goto (tgt := 12) d_TrustDeskModel_isWell_8 (by decide) ?_
            refine mv_iret d_TrustDeskModel_isWell_12 rfl (by decide) ?_
            refine mv_if_ne_t (tgt := 73) d_TrustDeskModel_compares_69 (by decide) (by decide) ?_
            refine mv_aload_n d_TrustDeskModel_compares_73 rfl rfl ?_
            obtain ⟨_, b143, -⟩ := I6.1 _ _ t11
            refine mv_callV (kc' := 0) (ks' := 0) (As := []) (st9 := [.ref o0]) d_TrustDeskModel_compares_74 lV_TrustDeskModel_237 b143 rfl (tc_TrustDeskModel_next_x (d := (d + 19)) (x9 := x9) (o0 := o0) t11 R8 I6.start) rfl (Nat.le_of_ble_eq_true rfl) (Nat.le_of_ble_eq_true rfl) (Nat.le_of_ble_eq_true rfl) (hst := rfl) (fun b137r M138 n139 b137 => ?_)
            obtain ⟨T140, J141, rfl, R144, f145, f146⟩ := b137
            have I142 := I6.call J141 (tm_sub (by decide)) (Or.inl rfl)
            have t147 := J141.up t11
            have := (rv_c I6 J141 (I6.up h_o0) (k := 19) rfl)
            have := (rv_c I6 J141 (I6.up h_o0) (k := 22) rfl)
            have h149 : rv M2 o0 16 + 1 ≤ rv M2 o0 15 := (by have := R8.1 15 _ _ rfl; have := R8.1 16 _ _ rfl; have := R8.1 19 _ _ rfl; have := E12.f yS; omega)
            have E148 : rE M0 M138 o0 1 1 := E12.next f145 f146 (rv_c I6 J141 (I6.up h_o0) (k := 19) rfl) (rE_ha I6 J141 (I6.up h_o0) (by decide)) (e := 1) h149 (by decide)
            have q150 := J141.keep t11 (by decide) q14
            refine mv_aload_n d_TrustDeskModel_compares_77 rfl rfl ?_
            obtain ⟨_, b157, -⟩ := I142.1 _ _ t147
            refine mv_callV (kc' := 0) (ks' := 0) (As := []) (st9 := [.ref o0]) d_TrustDeskModel_compares_78 lV_TrustDeskModel_288 b157 rfl (tc_TrustDeskModel_sum_q5_x (d := d) (x9 := x9) (o0 := o0) t147 R144 E148.1 (by have := R144.1 15 _ _ rfl; have := R144.1 16 _ _ rfl; have := R144.1 19 _ _ rfl; have := E148.f yS; omega) (by have := R144.1 15 _ _ rfl; have := R144.1 16 _ _ rfl; have := R144.1 19 _ _ rfl; have := E148.f yS; omega) I142.start) rfl (Nat.le_of_ble_eq_true rfl) (Nat.le_of_ble_eq_true rfl) (Nat.le_of_ble_eq_true rfl) (hst := rfl) (fun b151r M152 n153 b151 => ?_)
            obtain ⟨T154, J155, rfl, R158, f159, f160⟩ := b151
            have I156 := I142.call J155 (tm_sub (by decide)) (Or.inl rfl)
            have t161 := J155.up t147
            have E162 : rE M0 M152 o0 2 1 := E148.trans f159 (by decide) (yR.2 5 _ _ rfl 44).1 (by decide) (by decide)
            have := f159.w
            refine mv_aload_n d_TrustDeskModel_compares_81 rfl rfl ?_
            refine mv_iload_n d_TrustDeskModel_compares_82 rfl rfl ?_
            obtain ⟨_, b169, -⟩ := I156.1 _ _ t161
            refine mv_callV (kc' := 0) (ks' := 0) (As := [.int (-6)]) (st9 := [.int (-6), .ref o0]) d_TrustDeskModel_compares_83 lV_TrustDeskModel_279 b169 rfl (tc_TrustDeskModel_emits_x (d := (d + 19)) (x9 := x9) (o0 := o0) (x1 := (-6)) t161 R158 (by have := R158.1 15 _ _ rfl; have := R158.1 16 _ _ rfl; have := R158.1 19 _ _ rfl; have := E162.f yS; omega) (by decide) I156.start) rfl (Nat.le_of_ble_eq_true rfl) (Nat.le_of_ble_eq_true rfl) (Nat.le_of_ble_eq_true rfl) (hst := rfl) (fun b163r M164 n165 b163 => ?_)
            obtain ⟨T166, J167, rfl, R170, f171⟩ := b163
            have I168 := I156.call J167 (tm_sub (by decide)) (Or.inl rfl)
            have t172 := J167.up t161
            have := (rv_c I156 J167 (I156.up h_o0) (k := 16) rfl)
            have := (rv_c I156 J167 (I156.up h_o0) (k := 17) rfl)
            have := (rv_c I156 J167 (I156.up h_o0) (k := 19) rfl)
            have := (rv_c I156 J167 (I156.up h_o0) (k := 22) rfl)
            have E173 : rE M0 M164 o0 1 0 := E162.emit f171 (rE_hv I156 J167 (I156.up h_o0) 15 19 (by decide)) (yR.2 5 _ _ rfl 44).1 (by decide) (Or.inr (Or.inr ⟨by decide, by decide, by decide, by decide⟩)) (by decide)
            exact mv_vret d_TrustDeskModel_compares_86 rfl ⟨_, I168, rfl, R170, E173, (by have := R170.1 15 _ _ rfl; have := R170.1 16 _ _ rfl; have := R170.1 19 _ _ rfl; have := E173.f yS; omega)⟩
      · refine mv_aload_n d_TrustDeskModel_isSign_8 rfl rfl ?_
        obtain ⟨v175, q174⟩ := tm_atI I6 t11 (k := 18) rfl
        refine tr_getK q174 d_TrustDeskModel_isSign_9 f_TrustDeskModel_201_13 ?_
        have := R8.f (k := 18) q174 rfl
        have := tm_rv q174
        refine mv_iload_n d_TrustDeskModel_isSign_12 rfl rfl ?_
        have := mz_hi v175
        refine mv_icmp_neZ (tgt := 20) (a := v175.toInt) (b := 62) d_TrustDeskModel_isSign_13 (by decide) rfl (by decide) (fun b176 => ?_) (fun b176 => ?_)
        · refine mv_iconst (v := 0) d_TrustDeskModel_isSign_20 (by decide) ?_
          refine mv_iret d_TrustDeskModel_isSign_21 rfl (by decide) ?_
          refine mv_if_eq_t (tgt := 40) d_TrustDeskModel_compares_32 (by decide) (by decide) ?_
          refine mv_aload_n d_TrustDeskModel_compares_40 rfl rfl ?_
          refine mv_bipush (v := 61) d_TrustDeskModel_compares_41 (by decide) ?_
          obtain ⟨_, b177, -⟩ := I6.1 _ _ t11
          refine mv_callV (kc1 := 0) (ks1 := 0) (kc' := 0) (ks' := 0) (As := [.int 61]) (st9 := [.int 61, .ref o0]) d_TrustDeskModel_compares_43 lV_TrustDeskModel_234 b177 rfl (mj_enter (by decide) (Nat.le_of_ble_eq_true rfl) ?_) rfl (Nat.le_of_ble_eq_true rfl) (Nat.le_of_ble_eq_true rfl) (Nat.le_of_ble_eq_true rfl) (hst := rfl) (fun _ _ _ h => h)
          refine mv_aload_n d_TrustDeskModel_isSign_0 rfl rfl ?_
          refine tr_getK (k := 17) q18 d_TrustDeskModel_isSign_1 f_TrustDeskModel_198_13 ?_
          refine mv_iconst (v := 4) d_TrustDeskModel_isSign_4 (by decide) ?_
          have := mz_hi v19
          refine mv_icmp_neZ (tgt := 20) (a := v19.toInt) (b := 4) d_TrustDeskModel_isSign_5 (by decide) rfl (by decide) (fun b178 => absurd b178 (by omega)) (fun b178 => ?_)
          refine mv_aload_n d_TrustDeskModel_isSign_8 rfl rfl ?_
          refine tr_getK (k := 18) q174 d_TrustDeskModel_isSign_9 f_TrustDeskModel_201_13 ?_
          refine mv_iload_n d_TrustDeskModel_isSign_12 rfl rfl ?_
          have := mz_hi v175
          refine mv_icmp_neZ (tgt := 20) (a := v175.toInt) (b := 61) d_TrustDeskModel_isSign_13 (by decide) rfl (by decide) (fun b179 => ?_) (fun b179 => ?_)
          · refine mv_iconst (v := 0) d_TrustDeskModel_isSign_20 (by decide) ?_
            refine mv_iret d_TrustDeskModel_isSign_21 rfl (by decide) ?_
            refine mv_if_eq_t (tgt := 54) d_TrustDeskModel_compares_46 (by decide) (by decide) ?_
            refine mv_iconst (v := 0) d_TrustDeskModel_compares_54 (by decide) ?_
            refine mv_istore_n (lv' := [(1, .int 0), (0, .ref o0)]) d_TrustDeskModel_compares_55 rfl (by decide) rfl ?_
            refine mv_iload_n d_TrustDeskModel_compares_56 rfl rfl ?_
            refine mv_if_ne_f (tgt := 65) d_TrustDeskModel_compares_57 (by decide) (by decide) ?_
            refine mv_aload_n d_TrustDeskModel_compares_60 rfl rfl ?_
            refine mv_iconst (v := 1) d_TrustDeskModel_compares_61 (by decide) ?_
            obtain ⟨_, b186, -⟩ := I6.1 _ _ t11
            refine mv_callV (kc' := 0) (ks' := 0) (As := [.int 1]) (st9 := [.int 1, .ref o0]) d_TrustDeskModel_compares_62 lV_TrustDeskModel_240 b186 rfl (tc_TrustDeskModel_fails_x (d := (d + 20)) (x9 := x9) (o0 := o0) (x1 := 1) t11 R8 (by decide) I6.start) rfl (Nat.le_of_ble_eq_true rfl) (Nat.le_of_ble_eq_true rfl) (Nat.le_of_ble_eq_true rfl) (hst := rfl) (fun b180r M181 n182 b180 => ?_)
            obtain ⟨T183, J184, rfl, R187, f188⟩ := b180
            have I185 := I6.call J184 (tm_sub (by decide)) (Or.inl rfl)
            have t189 := J184.up t11
            have := (rv_c I6 J184 (I6.up h_o0) (k := 16) rfl)
            have := (rv_c I6 J184 (I6.up h_o0) (k := 17) rfl)
            have := (rv_c I6 J184 (I6.up h_o0) (k := 22) rfl)
            have E190 : rE M0 M181 o0 1 0 := E12.fails (rE_hv I6 J184 (I6.up h_o0) 15 18 (by decide)) (rE_ha I6 J184 (I6.up h_o0) (by decide)) f188 1 0
            have q191 := J184.keep t11 (by decide) q18
            have q192 := J184.keep t11 (by decide) q174
            refine mv_aload_n d_TrustDeskModel_compares_65 rfl rfl ?_
            obtain ⟨_, b193, -⟩ := I185.1 _ _ t189
            refine mv_callV (kc1 := 0) (ks1 := 0) (kc' := 0) (ks' := 0) (As := []) (st9 := [.ref o0]) d_TrustDeskModel_compares_66 lV_TrustDeskModel_230 b193 rfl (mj_enter (by decide) (Nat.le_of_ble_eq_true rfl) ?_) rfl (Nat.le_of_ble_eq_true rfl) (Nat.le_of_ble_eq_true rfl) (Nat.le_of_ble_eq_true rfl) (hst := rfl) (fun _ _ _ h => h)
            refine mv_aload_n d_TrustDeskModel_isWell_0 rfl rfl ?_
            obtain ⟨v195, q194⟩ := tm_atI I185 t189 (k := 19) rfl
            refine tr_getK q194 d_TrustDeskModel_isWell_1 f_TrustDeskModel_224_13 ?_
            have := R187.f (k := 19) q194 rfl
            have := tm_rv q194
            have := mz_hi v195
            refine mv_if_neZ (tgt := 11) (a := v195.toInt) d_TrustDeskModel_isWell_4 (by decide) rfl (fun b196 => ?_) (fun b196 => ?_)
            · refine mv_iconst (v := 0) d_TrustDeskModel_isWell_11 (by decide) ?_
              refine mv_iret d_TrustDeskModel_isWell_12 rfl (by decide) ?_
              refine mv_if_ne_f (tgt := 73) d_TrustDeskModel_compares_69 (by decide) (by decide) ?_
              exact mv_vret d_TrustDeskModel_compares_72 rfl ⟨_, I185, rfl, R187, E190, (by have := R187.1 15 _ _ rfl; have := R187.1 16 _ _ rfl; have := R187.1 19 _ _ rfl; have := E190.f yS; omega)⟩
            · refine mv_iconst (v := 1) d_TrustDeskModel_isWell_7 (by decide) ?_
              refine mv_goto (tgt := 12) d_TrustDeskModel_isWell_8 (by decide) ?_
              refine mv_iret d_TrustDeskModel_isWell_12 rfl (by decide) ?_
              refine mv_if_ne_t (tgt := 73) d_TrustDeskModel_compares_69 (by decide) (by decide) ?_
              refine mv_aload_n d_TrustDeskModel_compares_73 rfl rfl ?_
              obtain ⟨_, b203, -⟩ := I185.1 _ _ t189
              refine mv_callV (kc' := 0) (ks' := 0) (As := []) (st9 := [.ref o0]) d_TrustDeskModel_compares_74 lV_TrustDeskModel_237 b203 rfl (tc_TrustDeskModel_next_x (d := (d + 19)) (x9 := x9) (o0 := o0) t189 R187 I185.start) rfl (Nat.le_of_ble_eq_true rfl) (Nat.le_of_ble_eq_true rfl) (Nat.le_of_ble_eq_true rfl) (hst := rfl) (fun b197r M198 n199 b197 => ?_)
              obtain ⟨T200, J201, rfl, R204, f205, f206⟩ := b197
              have I202 := I185.call J201 (tm_sub (by decide)) (Or.inl rfl)
              have t207 := J201.up t189
              have := (rv_c I185 J201 (I185.up h_o0) (k := 19) rfl)
              have := (rv_c I185 J201 (I185.up h_o0) (k := 22) rfl)
              have h209 : rv M181 o0 16 + 1 ≤ rv M181 o0 15 := (by have := R187.1 15 _ _ rfl; have := R187.1 16 _ _ rfl; have := R187.1 19 _ _ rfl; have := E190.f yS; omega)
              have E208 : rE M0 M198 o0 1 1 := E190.next f205 f206 (rv_c I185 J201 (I185.up h_o0) (k := 19) rfl) (rE_ha I185 J201 (I185.up h_o0) (by decide)) (e := 1) h209 (by decide)
              have q210 := J201.keep t189 (by decide) q194
              refine mv_aload_n d_TrustDeskModel_compares_77 rfl rfl ?_
              obtain ⟨_, b217, -⟩ := I202.1 _ _ t207
              refine mv_callV (kc' := 0) (ks' := 0) (As := []) (st9 := [.ref o0]) d_TrustDeskModel_compares_78 lV_TrustDeskModel_288 b217 rfl (tc_TrustDeskModel_sum_q5_x (d := d) (x9 := x9) (o0 := o0) t207 R204 E208.1 (by have := R204.1 15 _ _ rfl; have := R204.1 16 _ _ rfl; have := R204.1 19 _ _ rfl; have := E208.f yS; omega) (by have := R204.1 15 _ _ rfl; have := R204.1 16 _ _ rfl; have := R204.1 19 _ _ rfl; have := E208.f yS; omega) I202.start) rfl (Nat.le_of_ble_eq_true rfl) (Nat.le_of_ble_eq_true rfl) (Nat.le_of_ble_eq_true rfl) (hst := rfl) (fun b211r M212 n213 b211 => ?_)
              obtain ⟨T214, J215, rfl, R218, f219, f220⟩ := b211
              have I216 := I202.call J215 (tm_sub (by decide)) (Or.inl rfl)
              have t221 := J215.up t207
              have E222 : rE M0 M212 o0 2 1 := E208.trans f219 (by decide) (yR.2 5 _ _ rfl 44).1 (by decide) (by decide)
              have := f219.w
              refine mv_aload_n d_TrustDeskModel_compares_81 rfl rfl ?_
              refine mv_iload_n d_TrustDeskModel_compares_82 rfl rfl ?_
              obtain ⟨_, b229, -⟩ := I216.1 _ _ t221
              refine mv_callV (kc' := 0) (ks' := 0) (As := [.int 0]) (st9 := [.int 0, .ref o0]) d_TrustDeskModel_compares_83 lV_TrustDeskModel_279 b229 rfl (tc_TrustDeskModel_emits_x (d := (d + 19)) (x9 := x9) (o0 := o0) (x1 := 0) t221 R218 (by have := R218.1 15 _ _ rfl; have := R218.1 16 _ _ rfl; have := R218.1 19 _ _ rfl; have := E222.f yS; omega) (by decide) I216.start) rfl (Nat.le_of_ble_eq_true rfl) (Nat.le_of_ble_eq_true rfl) (Nat.le_of_ble_eq_true rfl) (hst := rfl) (fun b223r M224 n225 b223 => ?_)
              obtain ⟨T226, J227, rfl, R230, f231⟩ := b223
              have I228 := I216.call J227 (tm_sub (by decide)) (Or.inl rfl)
              have t232 := J227.up t221
              have := (rv_c I216 J227 (I216.up h_o0) (k := 16) rfl)
              have := (rv_c I216 J227 (I216.up h_o0) (k := 17) rfl)
              have := (rv_c I216 J227 (I216.up h_o0) (k := 19) rfl)
              have := (rv_c I216 J227 (I216.up h_o0) (k := 22) rfl)
              have E233 : rE M0 M224 o0 3 0 := E222.emit f231 (rE_hv I216 J227 (I216.up h_o0) 15 19 (by decide)) (yR.2 5 _ _ rfl 44).1 (by decide) (Or.inl ⟨by have := R218.1 15 _ _ rfl; have := R218.1 16 _ _ rfl; have := R218.1 19 _ _ rfl; have := E222.f yS; omega, by decide⟩) (by decide)
              exact mv_vret d_TrustDeskModel_compares_86 rfl ⟨_, I228, rfl, R230, E233.vac (by have := R230.1 15 _ _ rfl; have := R230.1 16 _ _ rfl; have := R230.1 19 _ _ rfl; have := E233.f yS; omega) 1 0, (by have := R230.1 15 _ _ rfl; have := R230.1 16 _ _ rfl; have := R230.1 19 _ _ rfl; have := E233.f yS; omega)⟩
          · refine mv_iconst (v := 1) d_TrustDeskModel_isSign_16 (by decide) ?_
            refine mv_goto (tgt := 21) d_TrustDeskModel_isSign_17 (by decide) ?_
            refine mv_iret d_TrustDeskModel_isSign_21 rfl (by decide) ?_
            refine mv_if_eq_f (tgt := 54) d_TrustDeskModel_compares_46 (by decide) (by decide) ?_
            refine mv_bipush (v := (-6)) d_TrustDeskModel_compares_49 (by decide) ?_
            refine mv_goto (tgt := 55) d_TrustDeskModel_compares_51 (by decide) ?_
            refine mv_istore_n (lv' := [(1, .int (-6)), (0, .ref o0)]) d_TrustDeskModel_compares_55 rfl (by decide) rfl ?_
            refine mv_iload_n d_TrustDeskModel_compares_56 rfl rfl ?_
            refine mv_if_ne_t (tgt := 65) d_TrustDeskModel_compares_57 (by decide) (by decide) ?_
            refine mv_aload_n d_TrustDeskModel_compares_65 rfl rfl ?_
            obtain ⟨_, b234, -⟩ := I6.1 _ _ t11
            refine mv_callV (kc1 := 0) (ks1 := 0) (kc' := 0) (ks' := 0) (As := []) (st9 := [.ref o0]) d_TrustDeskModel_compares_66 lV_TrustDeskModel_230 b234 rfl (mj_enter (by decide) (Nat.le_of_ble_eq_true rfl) ?_) rfl (Nat.le_of_ble_eq_true rfl) (Nat.le_of_ble_eq_true rfl) (Nat.le_of_ble_eq_true rfl) (hst := rfl) (fun _ _ _ h => h)
            refine mv_aload_n d_TrustDeskModel_isWell_0 rfl rfl ?_
            refine tr_getK (k := 19) q14 d_TrustDeskModel_isWell_1 f_TrustDeskModel_224_13 ?_
            have := mz_hi v15
            refine mv_if_neZ (tgt := 11) (a := v15.toInt) d_TrustDeskModel_isWell_4 (by decide) rfl (fun b235 => absurd b235 (by omega)) (fun b235 => ?_)
            refine mv_iconst (v := 1) d_TrustDeskModel_isWell_7 (by decide) ?_
            refine mv_goto (tgt := 12) d_TrustDeskModel_isWell_8 (by decide) ?_
            refine mv_iret d_TrustDeskModel_isWell_12 rfl (by decide) ?_
            refine mv_if_ne_t (tgt := 73) d_TrustDeskModel_compares_69 (by decide) (by decide) ?_
            refine mv_aload_n d_TrustDeskModel_compares_73 rfl rfl ?_
            obtain ⟨_, b242, -⟩ := I6.1 _ _ t11
            refine mv_callV (kc' := 0) (ks' := 0) (As := []) (st9 := [.ref o0]) d_TrustDeskModel_compares_74 lV_TrustDeskModel_237 b242 rfl (tc_TrustDeskModel_next_x (d := (d + 19)) (x9 := x9) (o0 := o0) t11 R8 I6.start) rfl (Nat.le_of_ble_eq_true rfl) (Nat.le_of_ble_eq_true rfl) (Nat.le_of_ble_eq_true rfl) (hst := rfl) (fun b236r M237 n238 b236 => ?_)
            obtain ⟨T239, J240, rfl, R243, f244, f245⟩ := b236
            have I241 := I6.call J240 (tm_sub (by decide)) (Or.inl rfl)
            have t246 := J240.up t11
            have := (rv_c I6 J240 (I6.up h_o0) (k := 19) rfl)
            have := (rv_c I6 J240 (I6.up h_o0) (k := 22) rfl)
            have h248 : rv M2 o0 16 + 1 ≤ rv M2 o0 15 := (by have := R8.1 15 _ _ rfl; have := R8.1 16 _ _ rfl; have := R8.1 19 _ _ rfl; have := E12.f yS; omega)
            have E247 : rE M0 M237 o0 1 1 := E12.next f244 f245 (rv_c I6 J240 (I6.up h_o0) (k := 19) rfl) (rE_ha I6 J240 (I6.up h_o0) (by decide)) (e := 1) h248 (by decide)
            have q249 := J240.keep t11 (by decide) q14
            refine mv_aload_n d_TrustDeskModel_compares_77 rfl rfl ?_
            obtain ⟨_, b256, -⟩ := I241.1 _ _ t246
            refine mv_callV (kc' := 0) (ks' := 0) (As := []) (st9 := [.ref o0]) d_TrustDeskModel_compares_78 lV_TrustDeskModel_288 b256 rfl (tc_TrustDeskModel_sum_q5_x (d := d) (x9 := x9) (o0 := o0) t246 R243 E247.1 (by have := R243.1 15 _ _ rfl; have := R243.1 16 _ _ rfl; have := R243.1 19 _ _ rfl; have := E247.f yS; omega) (by have := R243.1 15 _ _ rfl; have := R243.1 16 _ _ rfl; have := R243.1 19 _ _ rfl; have := E247.f yS; omega) I241.start) rfl (Nat.le_of_ble_eq_true rfl) (Nat.le_of_ble_eq_true rfl) (Nat.le_of_ble_eq_true rfl) (hst := rfl) (fun b250r M251 n252 b250 => ?_)
            obtain ⟨T253, J254, rfl, R257, f258, f259⟩ := b250
            have I255 := I241.call J254 (tm_sub (by decide)) (Or.inl rfl)
            have t260 := J254.up t246
            have E261 : rE M0 M251 o0 2 1 := E247.trans f258 (by decide) (yR.2 5 _ _ rfl 44).1 (by decide) (by decide)
            have := f258.w
            refine mv_aload_n d_TrustDeskModel_compares_81 rfl rfl ?_
            refine mv_iload_n d_TrustDeskModel_compares_82 rfl rfl ?_
            obtain ⟨_, b268, -⟩ := I255.1 _ _ t260
            refine mv_callV (kc' := 0) (ks' := 0) (As := [.int (-6)]) (st9 := [.int (-6), .ref o0]) d_TrustDeskModel_compares_83 lV_TrustDeskModel_279 b268 rfl (tc_TrustDeskModel_emits_x (d := (d + 19)) (x9 := x9) (o0 := o0) (x1 := (-6)) t260 R257 (by have := R257.1 15 _ _ rfl; have := R257.1 16 _ _ rfl; have := R257.1 19 _ _ rfl; have := E261.f yS; omega) (by decide) I255.start) rfl (Nat.le_of_ble_eq_true rfl) (Nat.le_of_ble_eq_true rfl) (Nat.le_of_ble_eq_true rfl) (hst := rfl) (fun b262r M263 n264 b262 => ?_)
            obtain ⟨T265, J266, rfl, R269, f270⟩ := b262
            have I267 := I255.call J266 (tm_sub (by decide)) (Or.inl rfl)
            have t271 := J266.up t260
            have := (rv_c I255 J266 (I255.up h_o0) (k := 16) rfl)
            have := (rv_c I255 J266 (I255.up h_o0) (k := 17) rfl)
            have := (rv_c I255 J266 (I255.up h_o0) (k := 19) rfl)
            have := (rv_c I255 J266 (I255.up h_o0) (k := 22) rfl)
            have E272 : rE M0 M263 o0 1 0 := E261.emit f270 (rE_hv I255 J266 (I255.up h_o0) 15 19 (by decide)) (yR.2 5 _ _ rfl 44).1 (by decide) (Or.inr (Or.inr ⟨by decide, by decide, by decide, by decide⟩)) (by decide)
            exact mv_vret d_TrustDeskModel_compares_86 rfl ⟨_, I267, rfl, R269, E272, (by have := R269.1 15 _ _ rfl; have := R269.1 16 _ _ rfl; have := R269.1 19 _ _ rfl; have := E272.f yS; omega)⟩
        · refine mv_iconst (v := 1) d_TrustDeskModel_isSign_16 (by decide) ?_
          refine mv_goto (tgt := 21) d_TrustDeskModel_isSign_17 (by decide) ?_
          refine mv_iret d_TrustDeskModel_isSign_21 rfl (by decide) ?_
          refine mv_if_eq_f (tgt := 40) d_TrustDeskModel_compares_32 (by decide) (by decide) ?_
          refine mv_bipush (v := (-5)) d_TrustDeskModel_compares_35 (by decide) ?_
          refine mv_goto (tgt := 55) d_TrustDeskModel_compares_37 (by decide) ?_
          refine mv_istore_n (lv' := [(1, .int (-5)), (0, .ref o0)]) d_TrustDeskModel_compares_55 rfl (by decide) rfl ?_
          refine mv_iload_n d_TrustDeskModel_compares_56 rfl rfl ?_
          refine mv_if_ne_t (tgt := 65) d_TrustDeskModel_compares_57 (by decide) (by decide) ?_
          refine mv_aload_n d_TrustDeskModel_compares_65 rfl rfl ?_
          obtain ⟨_, b273, -⟩ := I6.1 _ _ t11
          refine mv_callV (kc1 := 0) (ks1 := 0) (kc' := 0) (ks' := 0) (As := []) (st9 := [.ref o0]) d_TrustDeskModel_compares_66 lV_TrustDeskModel_230 b273 rfl (mj_enter (by decide) (Nat.le_of_ble_eq_true rfl) ?_) rfl (Nat.le_of_ble_eq_true rfl) (Nat.le_of_ble_eq_true rfl) (Nat.le_of_ble_eq_true rfl) (hst := rfl) (fun _ _ _ h => h)
          refine mv_aload_n d_TrustDeskModel_isWell_0 rfl rfl ?_
          refine tr_getK (k := 19) q14 d_TrustDeskModel_isWell_1 f_TrustDeskModel_224_13 ?_
          have := mz_hi v15
          refine mv_if_neZ (tgt := 11) (a := v15.toInt) d_TrustDeskModel_isWell_4 (by decide) rfl (fun b274 => absurd b274 (by omega)) (fun b274 => ?_)
          refine mv_iconst (v := 1) d_TrustDeskModel_isWell_7 (by decide) ?_
          refine mv_goto (tgt := 12) d_TrustDeskModel_isWell_8 (by decide) ?_
          refine mv_iret d_TrustDeskModel_isWell_12 rfl (by decide) ?_
          refine mv_if_ne_t (tgt := 73) d_TrustDeskModel_compares_69 (by decide) (by decide) ?_
          refine mv_aload_n d_TrustDeskModel_compares_73 rfl rfl ?_
          obtain ⟨_, b281, -⟩ := I6.1 _ _ t11
          refine mv_callV (kc' := 0) (ks' := 0) (As := []) (st9 := [.ref o0]) d_TrustDeskModel_compares_74 lV_TrustDeskModel_237 b281 rfl (tc_TrustDeskModel_next_x (d := (d + 19)) (x9 := x9) (o0 := o0) t11 R8 I6.start) rfl (Nat.le_of_ble_eq_true rfl) (Nat.le_of_ble_eq_true rfl) (Nat.le_of_ble_eq_true rfl) (hst := rfl) (fun b275r M276 n277 b275 => ?_)
          obtain ⟨T278, J279, rfl, R282, f283, f284⟩ := b275
          have I280 := I6.call J279 (tm_sub (by decide)) (Or.inl rfl)
          have t285 := J279.up t11
          have := (rv_c I6 J279 (I6.up h_o0) (k := 19) rfl)
          have := (rv_c I6 J279 (I6.up h_o0) (k := 22) rfl)
          have h287 : rv M2 o0 16 + 1 ≤ rv M2 o0 15 := (by have := R8.1 15 _ _ rfl; have := R8.1 16 _ _ rfl; have := R8.1 19 _ _ rfl; have := E12.f yS; omega)
          have E286 : rE M0 M276 o0 1 1 := E12.next f283 f284 (rv_c I6 J279 (I6.up h_o0) (k := 19) rfl) (rE_ha I6 J279 (I6.up h_o0) (by decide)) (e := 1) h287 (by decide)
          have q288 := J279.keep t11 (by decide) q14
          refine mv_aload_n d_TrustDeskModel_compares_77 rfl rfl ?_
          obtain ⟨_, b295, -⟩ := I280.1 _ _ t285
          refine mv_callV (kc' := 0) (ks' := 0) (As := []) (st9 := [.ref o0]) d_TrustDeskModel_compares_78 lV_TrustDeskModel_288 b295 rfl (tc_TrustDeskModel_sum_q5_x (d := d) (x9 := x9) (o0 := o0) t285 R282 E286.1 (by have := R282.1 15 _ _ rfl; have := R282.1 16 _ _ rfl; have := R282.1 19 _ _ rfl; have := E286.f yS; omega) (by have := R282.1 15 _ _ rfl; have := R282.1 16 _ _ rfl; have := R282.1 19 _ _ rfl; have := E286.f yS; omega) I280.start) rfl (Nat.le_of_ble_eq_true rfl) (Nat.le_of_ble_eq_true rfl) (Nat.le_of_ble_eq_true rfl) (hst := rfl) (fun b289r M290 n291 b289 => ?_)
          obtain ⟨T292, J293, rfl, R296, f297, f298⟩ := b289
          have I294 := I280.call J293 (tm_sub (by decide)) (Or.inl rfl)
          have t299 := J293.up t285
          have E300 : rE M0 M290 o0 2 1 := E286.trans f297 (by decide) (yR.2 5 _ _ rfl 44).1 (by decide) (by decide)
          have := f297.w
          refine mv_aload_n d_TrustDeskModel_compares_81 rfl rfl ?_
          refine mv_iload_n d_TrustDeskModel_compares_82 rfl rfl ?_
          obtain ⟨_, b307, -⟩ := I294.1 _ _ t299
          refine mv_callV (kc' := 0) (ks' := 0) (As := [.int (-5)]) (st9 := [.int (-5), .ref o0]) d_TrustDeskModel_compares_83 lV_TrustDeskModel_279 b307 rfl (tc_TrustDeskModel_emits_x (d := (d + 19)) (x9 := x9) (o0 := o0) (x1 := (-5)) t299 R296 (by have := R296.1 15 _ _ rfl; have := R296.1 16 _ _ rfl; have := R296.1 19 _ _ rfl; have := E300.f yS; omega) (by decide) I294.start) rfl (Nat.le_of_ble_eq_true rfl) (Nat.le_of_ble_eq_true rfl) (Nat.le_of_ble_eq_true rfl) (hst := rfl) (fun b301r M302 n303 b301 => ?_)
          obtain ⟨T304, J305, rfl, R308, f309⟩ := b301
          have I306 := I294.call J305 (tm_sub (by decide)) (Or.inl rfl)
          have t310 := J305.up t299
          have := (rv_c I294 J305 (I294.up h_o0) (k := 16) rfl)
          have := (rv_c I294 J305 (I294.up h_o0) (k := 17) rfl)
          have := (rv_c I294 J305 (I294.up h_o0) (k := 19) rfl)
          have := (rv_c I294 J305 (I294.up h_o0) (k := 22) rfl)
          have E311 : rE M0 M302 o0 1 0 := E300.emit f309 (rE_hv I294 J305 (I294.up h_o0) 15 19 (by decide)) (yR.2 5 _ _ rfl 44).1 (by decide) (Or.inr (Or.inr ⟨by decide, by decide, by decide, by decide⟩)) (by decide)
          exact mv_vret d_TrustDeskModel_compares_86 rfl ⟨_, I306, rfl, R308, E311, (by have := R308.1 15 _ _ rfl; have := R308.1 16 _ _ rfl; have := R308.1 19 _ _ rfl; have := E311.f yS; omega)⟩
    · refine mv_aload_n d_TrustDeskModel_isSign_8 rfl rfl ?_
      obtain ⟨v313, q312⟩ := tm_atI I6 t11 (k := 18) rfl
      refine tr_getK q312 d_TrustDeskModel_isSign_9 f_TrustDeskModel_201_13 ?_
      have := R8.f (k := 18) q312 rfl
      have := tm_rv q312
      refine mv_iload_n d_TrustDeskModel_isSign_12 rfl rfl ?_
      have := mz_hi v313
      refine mv_icmp_neZ (tgt := 20) (a := v313.toInt) (b := 60) d_TrustDeskModel_isSign_13 (by decide) rfl (by decide) (fun b314 => ?_) (fun b314 => ?_)
      · refine mv_iconst (v := 0) d_TrustDeskModel_isSign_20 (by decide) ?_
        refine mv_iret d_TrustDeskModel_isSign_21 rfl (by decide) ?_
        refine mv_if_eq_t (tgt := 26) d_TrustDeskModel_compares_18 (by decide) (by decide) ?_
        refine mv_aload_n d_TrustDeskModel_compares_26 rfl rfl ?_
        refine mv_bipush (v := 62) d_TrustDeskModel_compares_27 (by decide) ?_
        obtain ⟨_, b315, -⟩ := I6.1 _ _ t11
        refine mv_callV (kc1 := 0) (ks1 := 0) (kc' := 0) (ks' := 0) (As := [.int 62]) (st9 := [.int 62, .ref o0]) d_TrustDeskModel_compares_29 lV_TrustDeskModel_234 b315 rfl (mj_enter (by decide) (Nat.le_of_ble_eq_true rfl) ?_) rfl (Nat.le_of_ble_eq_true rfl) (Nat.le_of_ble_eq_true rfl) (Nat.le_of_ble_eq_true rfl) (hst := rfl) (fun _ _ _ h => h)
        refine mv_aload_n d_TrustDeskModel_isSign_0 rfl rfl ?_
        refine tr_getK (k := 17) q18 d_TrustDeskModel_isSign_1 f_TrustDeskModel_198_13 ?_
        refine mv_iconst (v := 4) d_TrustDeskModel_isSign_4 (by decide) ?_
        have := mz_hi v19
        refine mv_icmp_neZ (tgt := 20) (a := v19.toInt) (b := 4) d_TrustDeskModel_isSign_5 (by decide) rfl (by decide) (fun b316 => absurd b316 (by omega)) (fun b316 => ?_)
        refine mv_aload_n d_TrustDeskModel_isSign_8 rfl rfl ?_
        refine tr_getK (k := 18) q312 d_TrustDeskModel_isSign_9 f_TrustDeskModel_201_13 ?_
        refine mv_iload_n d_TrustDeskModel_isSign_12 rfl rfl ?_
        have := mz_hi v313
        refine mv_icmp_neZ (tgt := 20) (a := v313.toInt) (b := 62) d_TrustDeskModel_isSign_13 (by decide) rfl (by decide) (fun b317 => ?_) (fun b317 => ?_)
        · refine mv_iconst (v := 0) d_TrustDeskModel_isSign_20 (by decide) ?_
          refine mv_iret d_TrustDeskModel_isSign_21 rfl (by decide) ?_
          refine mv_if_eq_t (tgt := 40) d_TrustDeskModel_compares_32 (by decide) (by decide) ?_
          refine mv_aload_n d_TrustDeskModel_compares_40 rfl rfl ?_
          refine mv_bipush (v := 61) d_TrustDeskModel_compares_41 (by decide) ?_
          obtain ⟨_, b318, -⟩ := I6.1 _ _ t11
          refine mv_callV (kc1 := 0) (ks1 := 0) (kc' := 0) (ks' := 0) (As := [.int 61]) (st9 := [.int 61, .ref o0]) d_TrustDeskModel_compares_43 lV_TrustDeskModel_234 b318 rfl (mj_enter (by decide) (Nat.le_of_ble_eq_true rfl) ?_) rfl (Nat.le_of_ble_eq_true rfl) (Nat.le_of_ble_eq_true rfl) (Nat.le_of_ble_eq_true rfl) (hst := rfl) (fun _ _ _ h => h)
          refine mv_aload_n d_TrustDeskModel_isSign_0 rfl rfl ?_
          refine tr_getK (k := 17) q18 d_TrustDeskModel_isSign_1 f_TrustDeskModel_198_13 ?_
          refine mv_iconst (v := 4) d_TrustDeskModel_isSign_4 (by decide) ?_
          have := mz_hi v19
          refine mv_icmp_neZ (tgt := 20) (a := v19.toInt) (b := 4) d_TrustDeskModel_isSign_5 (by decide) rfl (by decide) (fun b319 => absurd b319 (by omega)) (fun b319 => ?_)
          refine mv_aload_n d_TrustDeskModel_isSign_8 rfl rfl ?_
          refine tr_getK (k := 18) q312 d_TrustDeskModel_isSign_9 f_TrustDeskModel_201_13 ?_
          refine mv_iload_n d_TrustDeskModel_isSign_12 rfl rfl ?_
          have := mz_hi v313
          refine mv_icmp_neZ (tgt := 20) (a := v313.toInt) (b := 61) d_TrustDeskModel_isSign_13 (by decide) rfl (by decide) (fun b320 => ?_) (fun b320 => ?_)
          · refine mv_iconst (v := 0) d_TrustDeskModel_isSign_20 (by decide) ?_
            refine mv_iret d_TrustDeskModel_isSign_21 rfl (by decide) ?_
            refine mv_if_eq_t (tgt := 54) d_TrustDeskModel_compares_46 (by decide) (by decide) ?_
            refine mv_iconst (v := 0) d_TrustDeskModel_compares_54 (by decide) ?_
            refine mv_istore_n (lv' := [(1, .int 0), (0, .ref o0)]) d_TrustDeskModel_compares_55 rfl (by decide) rfl ?_
            refine mv_iload_n d_TrustDeskModel_compares_56 rfl rfl ?_
            refine mv_if_ne_f (tgt := 65) d_TrustDeskModel_compares_57 (by decide) (by decide) ?_
            refine mv_aload_n d_TrustDeskModel_compares_60 rfl rfl ?_
            refine mv_iconst (v := 1) d_TrustDeskModel_compares_61 (by decide) ?_
            obtain ⟨_, b327, -⟩ := I6.1 _ _ t11
            refine mv_callV (kc' := 0) (ks' := 0) (As := [.int 1]) (st9 := [.int 1, .ref o0]) d_TrustDeskModel_compares_62 lV_TrustDeskModel_240 b327 rfl (tc_TrustDeskModel_fails_x (d := (d + 20)) (x9 := x9) (o0 := o0) (x1 := 1) t11 R8 (by decide) I6.start) rfl (Nat.le_of_ble_eq_true rfl) (Nat.le_of_ble_eq_true rfl) (Nat.le_of_ble_eq_true rfl) (hst := rfl) (fun b321r M322 n323 b321 => ?_)
            obtain ⟨T324, J325, rfl, R328, f329⟩ := b321
            have I326 := I6.call J325 (tm_sub (by decide)) (Or.inl rfl)
            have t330 := J325.up t11
            have := (rv_c I6 J325 (I6.up h_o0) (k := 16) rfl)
            have := (rv_c I6 J325 (I6.up h_o0) (k := 17) rfl)
            have := (rv_c I6 J325 (I6.up h_o0) (k := 22) rfl)
            have E331 : rE M0 M322 o0 1 0 := E12.fails (rE_hv I6 J325 (I6.up h_o0) 15 18 (by decide)) (rE_ha I6 J325 (I6.up h_o0) (by decide)) f329 1 0
            have q332 := J325.keep t11 (by decide) q18
            have q333 := J325.keep t11 (by decide) q312
            refine mv_aload_n d_TrustDeskModel_compares_65 rfl rfl ?_
            obtain ⟨_, b334, -⟩ := I326.1 _ _ t330
            refine mv_callV (kc1 := 0) (ks1 := 0) (kc' := 0) (ks' := 0) (As := []) (st9 := [.ref o0]) d_TrustDeskModel_compares_66 lV_TrustDeskModel_230 b334 rfl (mj_enter (by decide) (Nat.le_of_ble_eq_true rfl) ?_) rfl (Nat.le_of_ble_eq_true rfl) (Nat.le_of_ble_eq_true rfl) (Nat.le_of_ble_eq_true rfl) (hst := rfl) (fun _ _ _ h => h)
            refine mv_aload_n d_TrustDeskModel_isWell_0 rfl rfl ?_
            obtain ⟨v336, q335⟩ := tm_atI I326 t330 (k := 19) rfl
            refine tr_getK q335 d_TrustDeskModel_isWell_1 f_TrustDeskModel_224_13 ?_
            have := R328.f (k := 19) q335 rfl
            have := tm_rv q335
            have := mz_hi v336
            refine mv_if_neZ (tgt := 11) (a := v336.toInt) d_TrustDeskModel_isWell_4 (by decide) rfl (fun b337 => ?_) (fun b337 => ?_)
            · refine mv_iconst (v := 0) d_TrustDeskModel_isWell_11 (by decide) ?_
              refine mv_iret d_TrustDeskModel_isWell_12 rfl (by decide) ?_
              refine mv_if_ne_f (tgt := 73) d_TrustDeskModel_compares_69 (by decide) (by decide) ?_
              exact mv_vret d_TrustDeskModel_compares_72 rfl ⟨_, I326, rfl, R328, E331, (by have := R328.1 15 _ _ rfl; have := R328.1 16 _ _ rfl; have := R328.1 19 _ _ rfl; have := E331.f yS; omega)⟩
            · refine mv_iconst (v := 1) d_TrustDeskModel_isWell_7 (by decide) ?_
              refine mv_goto (tgt := 12) d_TrustDeskModel_isWell_8 (by decide) ?_
              refine mv_iret d_TrustDeskModel_isWell_12 rfl (by decide) ?_
              refine mv_if_ne_t (tgt := 73) d_TrustDeskModel_compares_69 (by decide) (by decide) ?_
              refine mv_aload_n d_TrustDeskModel_compares_73 rfl rfl ?_
              obtain ⟨_, b344, -⟩ := I326.1 _ _ t330
              refine mv_callV (kc' := 0) (ks' := 0) (As := []) (st9 := [.ref o0]) d_TrustDeskModel_compares_74 lV_TrustDeskModel_237 b344 rfl (tc_TrustDeskModel_next_x (d := (d + 19)) (x9 := x9) (o0 := o0) t330 R328 I326.start) rfl (Nat.le_of_ble_eq_true rfl) (Nat.le_of_ble_eq_true rfl) (Nat.le_of_ble_eq_true rfl) (hst := rfl) (fun b338r M339 n340 b338 => ?_)
              obtain ⟨T341, J342, rfl, R345, f346, f347⟩ := b338
              have I343 := I326.call J342 (tm_sub (by decide)) (Or.inl rfl)
              have t348 := J342.up t330
              have := (rv_c I326 J342 (I326.up h_o0) (k := 19) rfl)
              have := (rv_c I326 J342 (I326.up h_o0) (k := 22) rfl)
              have h350 : rv M322 o0 16 + 1 ≤ rv M322 o0 15 := (by have := R328.1 15 _ _ rfl; have := R328.1 16 _ _ rfl; have := R328.1 19 _ _ rfl; have := E331.f yS; omega)
              have E349 : rE M0 M339 o0 1 1 := E331.next f346 f347 (rv_c I326 J342 (I326.up h_o0) (k := 19) rfl) (rE_ha I326 J342 (I326.up h_o0) (by decide)) (e := 1) h350 (by decide)
              have q351 := J342.keep t330 (by decide) q335
              refine mv_aload_n d_TrustDeskModel_compares_77 rfl rfl ?_
              obtain ⟨_, b358, -⟩ := I343.1 _ _ t348
              refine mv_callV (kc' := 0) (ks' := 0) (As := []) (st9 := [.ref o0]) d_TrustDeskModel_compares_78 lV_TrustDeskModel_288 b358 rfl (tc_TrustDeskModel_sum_q5_x (d := d) (x9 := x9) (o0 := o0) t348 R345 E349.1 (by have := R345.1 15 _ _ rfl; have := R345.1 16 _ _ rfl; have := R345.1 19 _ _ rfl; have := E349.f yS; omega) (by have := R345.1 15 _ _ rfl; have := R345.1 16 _ _ rfl; have := R345.1 19 _ _ rfl; have := E349.f yS; omega) I343.start) rfl (Nat.le_of_ble_eq_true rfl) (Nat.le_of_ble_eq_true rfl) (Nat.le_of_ble_eq_true rfl) (hst := rfl) (fun b352r M353 n354 b352 => ?_)
              obtain ⟨T355, J356, rfl, R359, f360, f361⟩ := b352
              have I357 := I343.call J356 (tm_sub (by decide)) (Or.inl rfl)
              have t362 := J356.up t348
              have E363 : rE M0 M353 o0 2 1 := E349.trans f360 (by decide) (yR.2 5 _ _ rfl 44).1 (by decide) (by decide)
              have := f360.w
              refine mv_aload_n d_TrustDeskModel_compares_81 rfl rfl ?_
              refine mv_iload_n d_TrustDeskModel_compares_82 rfl rfl ?_
              obtain ⟨_, b370, -⟩ := I357.1 _ _ t362
              refine mv_callV (kc' := 0) (ks' := 0) (As := [.int 0]) (st9 := [.int 0, .ref o0]) d_TrustDeskModel_compares_83 lV_TrustDeskModel_279 b370 rfl (tc_TrustDeskModel_emits_x (d := (d + 19)) (x9 := x9) (o0 := o0) (x1 := 0) t362 R359 (by have := R359.1 15 _ _ rfl; have := R359.1 16 _ _ rfl; have := R359.1 19 _ _ rfl; have := E363.f yS; omega) (by decide) I357.start) rfl (Nat.le_of_ble_eq_true rfl) (Nat.le_of_ble_eq_true rfl) (Nat.le_of_ble_eq_true rfl) (hst := rfl) (fun b364r M365 n366 b364 => ?_)
              obtain ⟨T367, J368, rfl, R371, f372⟩ := b364
              have I369 := I357.call J368 (tm_sub (by decide)) (Or.inl rfl)
              have t373 := J368.up t362
              have := (rv_c I357 J368 (I357.up h_o0) (k := 16) rfl)
              have := (rv_c I357 J368 (I357.up h_o0) (k := 17) rfl)
              have := (rv_c I357 J368 (I357.up h_o0) (k := 19) rfl)
              have := (rv_c I357 J368 (I357.up h_o0) (k := 22) rfl)
              have E374 : rE M0 M365 o0 3 0 := E363.emit f372 (rE_hv I357 J368 (I357.up h_o0) 15 19 (by decide)) (yR.2 5 _ _ rfl 44).1 (by decide) (Or.inl ⟨by have := R359.1 15 _ _ rfl; have := R359.1 16 _ _ rfl; have := R359.1 19 _ _ rfl; have := E363.f yS; omega, by decide⟩) (by decide)
              exact mv_vret d_TrustDeskModel_compares_86 rfl ⟨_, I369, rfl, R371, E374.vac (by have := R371.1 15 _ _ rfl; have := R371.1 16 _ _ rfl; have := R371.1 19 _ _ rfl; have := E374.f yS; omega) 1 0, (by have := R371.1 15 _ _ rfl; have := R371.1 16 _ _ rfl; have := R371.1 19 _ _ rfl; have := E374.f yS; omega)⟩
          · refine mv_iconst (v := 1) d_TrustDeskModel_isSign_16 (by decide) ?_
            refine mv_goto (tgt := 21) d_TrustDeskModel_isSign_17 (by decide) ?_
            refine mv_iret d_TrustDeskModel_isSign_21 rfl (by decide) ?_
            refine mv_if_eq_f (tgt := 54) d_TrustDeskModel_compares_46 (by decide) (by decide) ?_
            refine mv_bipush (v := (-6)) d_TrustDeskModel_compares_49 (by decide) ?_
            refine mv_goto (tgt := 55) d_TrustDeskModel_compares_51 (by decide) ?_
            refine mv_istore_n (lv' := [(1, .int (-6)), (0, .ref o0)]) d_TrustDeskModel_compares_55 rfl (by decide) rfl ?_
            refine mv_iload_n d_TrustDeskModel_compares_56 rfl rfl ?_
            refine mv_if_ne_t (tgt := 65) d_TrustDeskModel_compares_57 (by decide) (by decide) ?_
            refine mv_aload_n d_TrustDeskModel_compares_65 rfl rfl ?_
            obtain ⟨_, b375, -⟩ := I6.1 _ _ t11
            refine mv_callV (kc1 := 0) (ks1 := 0) (kc' := 0) (ks' := 0) (As := []) (st9 := [.ref o0]) d_TrustDeskModel_compares_66 lV_TrustDeskModel_230 b375 rfl (mj_enter (by decide) (Nat.le_of_ble_eq_true rfl) ?_) rfl (Nat.le_of_ble_eq_true rfl) (Nat.le_of_ble_eq_true rfl) (Nat.le_of_ble_eq_true rfl) (hst := rfl) (fun _ _ _ h => h)
            refine mv_aload_n d_TrustDeskModel_isWell_0 rfl rfl ?_
            refine tr_getK (k := 19) q14 d_TrustDeskModel_isWell_1 f_TrustDeskModel_224_13 ?_
            have := mz_hi v15
            refine mv_if_neZ (tgt := 11) (a := v15.toInt) d_TrustDeskModel_isWell_4 (by decide) rfl (fun b376 => absurd b376 (by omega)) (fun b376 => ?_)
            refine mv_iconst (v := 1) d_TrustDeskModel_isWell_7 (by decide) ?_
            refine mv_goto (tgt := 12) d_TrustDeskModel_isWell_8 (by decide) ?_
            refine mv_iret d_TrustDeskModel_isWell_12 rfl (by decide) ?_
            refine mv_if_ne_t (tgt := 73) d_TrustDeskModel_compares_69 (by decide) (by decide) ?_
            refine mv_aload_n d_TrustDeskModel_compares_73 rfl rfl ?_
            obtain ⟨_, b383, -⟩ := I6.1 _ _ t11
            refine mv_callV (kc' := 0) (ks' := 0) (As := []) (st9 := [.ref o0]) d_TrustDeskModel_compares_74 lV_TrustDeskModel_237 b383 rfl (tc_TrustDeskModel_next_x (d := (d + 19)) (x9 := x9) (o0 := o0) t11 R8 I6.start) rfl (Nat.le_of_ble_eq_true rfl) (Nat.le_of_ble_eq_true rfl) (Nat.le_of_ble_eq_true rfl) (hst := rfl) (fun b377r M378 n379 b377 => ?_)
            obtain ⟨T380, J381, rfl, R384, f385, f386⟩ := b377
            have I382 := I6.call J381 (tm_sub (by decide)) (Or.inl rfl)
            have t387 := J381.up t11
            have := (rv_c I6 J381 (I6.up h_o0) (k := 19) rfl)
            have := (rv_c I6 J381 (I6.up h_o0) (k := 22) rfl)
            have h389 : rv M2 o0 16 + 1 ≤ rv M2 o0 15 := (by have := R8.1 15 _ _ rfl; have := R8.1 16 _ _ rfl; have := R8.1 19 _ _ rfl; have := E12.f yS; omega)
            have E388 : rE M0 M378 o0 1 1 := E12.next f385 f386 (rv_c I6 J381 (I6.up h_o0) (k := 19) rfl) (rE_ha I6 J381 (I6.up h_o0) (by decide)) (e := 1) h389 (by decide)
            have q390 := J381.keep t11 (by decide) q14
            refine mv_aload_n d_TrustDeskModel_compares_77 rfl rfl ?_
            obtain ⟨_, b397, -⟩ := I382.1 _ _ t387
            refine mv_callV (kc' := 0) (ks' := 0) (As := []) (st9 := [.ref o0]) d_TrustDeskModel_compares_78 lV_TrustDeskModel_288 b397 rfl (tc_TrustDeskModel_sum_q5_x (d := d) (x9 := x9) (o0 := o0) t387 R384 E388.1 (by have := R384.1 15 _ _ rfl; have := R384.1 16 _ _ rfl; have := R384.1 19 _ _ rfl; have := E388.f yS; omega) (by have := R384.1 15 _ _ rfl; have := R384.1 16 _ _ rfl; have := R384.1 19 _ _ rfl; have := E388.f yS; omega) I382.start) rfl (Nat.le_of_ble_eq_true rfl) (Nat.le_of_ble_eq_true rfl) (Nat.le_of_ble_eq_true rfl) (hst := rfl) (fun b391r M392 n393 b391 => ?_)
            obtain ⟨T394, J395, rfl, R398, f399, f400⟩ := b391
            have I396 := I382.call J395 (tm_sub (by decide)) (Or.inl rfl)
            have t401 := J395.up t387
            have E402 : rE M0 M392 o0 2 1 := E388.trans f399 (by decide) (yR.2 5 _ _ rfl 44).1 (by decide) (by decide)
            have := f399.w
            refine mv_aload_n d_TrustDeskModel_compares_81 rfl rfl ?_
            refine mv_iload_n d_TrustDeskModel_compares_82 rfl rfl ?_
            obtain ⟨_, b409, -⟩ := I396.1 _ _ t401
            refine mv_callV (kc' := 0) (ks' := 0) (As := [.int (-6)]) (st9 := [.int (-6), .ref o0]) d_TrustDeskModel_compares_83 lV_TrustDeskModel_279 b409 rfl (tc_TrustDeskModel_emits_x (d := (d + 19)) (x9 := x9) (o0 := o0) (x1 := (-6)) t401 R398 (by have := R398.1 15 _ _ rfl; have := R398.1 16 _ _ rfl; have := R398.1 19 _ _ rfl; have := E402.f yS; omega) (by decide) I396.start) rfl (Nat.le_of_ble_eq_true rfl) (Nat.le_of_ble_eq_true rfl) (Nat.le_of_ble_eq_true rfl) (hst := rfl) (fun b403r M404 n405 b403 => ?_)
            obtain ⟨T406, J407, rfl, R410, f411⟩ := b403
            have I408 := I396.call J407 (tm_sub (by decide)) (Or.inl rfl)
            have t412 := J407.up t401
            have := (rv_c I396 J407 (I396.up h_o0) (k := 16) rfl)
            have := (rv_c I396 J407 (I396.up h_o0) (k := 17) rfl)
            have := (rv_c I396 J407 (I396.up h_o0) (k := 19) rfl)
            have := (rv_c I396 J407 (I396.up h_o0) (k := 22) rfl)
            have E413 : rE M0 M404 o0 1 0 := E402.emit f411 (rE_hv I396 J407 (I396.up h_o0) 15 19 (by decide)) (yR.2 5 _ _ rfl 44).1 (by decide) (Or.inr (Or.inr ⟨by decide, by decide, by decide, by decide⟩)) (by decide)
            exact mv_vret d_TrustDeskModel_compares_86 rfl ⟨_, I408, rfl, R410, E413, (by have := R410.1 15 _ _ rfl; have := R410.1 16 _ _ rfl; have := R410.1 19 _ _ rfl; have := E413.f yS; omega)⟩
        · refine mv_iconst (v := 1) d_TrustDeskModel_isSign_16 (by decide) ?_
          refine mv_goto (tgt := 21) d_TrustDeskModel_isSign_17 (by decide) ?_
          refine mv_iret d_TrustDeskModel_isSign_21 rfl (by decide) ?_
          refine mv_if_eq_f (tgt := 40) d_TrustDeskModel_compares_32 (by decide) (by decide) ?_
          refine mv_bipush (v := (-5)) d_TrustDeskModel_compares_35 (by decide) ?_
          refine mv_goto (tgt := 55) d_TrustDeskModel_compares_37 (by decide) ?_
          refine mv_istore_n (lv' := [(1, .int (-5)), (0, .ref o0)]) d_TrustDeskModel_compares_55 rfl (by decide) rfl ?_
          refine mv_iload_n d_TrustDeskModel_compares_56 rfl rfl ?_
          refine mv_if_ne_t (tgt := 65) d_TrustDeskModel_compares_57 (by decide) (by decide) ?_
          refine mv_aload_n d_TrustDeskModel_compares_65 rfl rfl ?_
          obtain ⟨_, b414, -⟩ := I6.1 _ _ t11
          refine mv_callV (kc1 := 0) (ks1 := 0) (kc' := 0) (ks' := 0) (As := []) (st9 := [.ref o0]) d_TrustDeskModel_compares_66 lV_TrustDeskModel_230 b414 rfl (mj_enter (by decide) (Nat.le_of_ble_eq_true rfl) ?_) rfl (Nat.le_of_ble_eq_true rfl) (Nat.le_of_ble_eq_true rfl) (Nat.le_of_ble_eq_true rfl) (hst := rfl) (fun _ _ _ h => h)
          refine mv_aload_n d_TrustDeskModel_isWell_0 rfl rfl ?_
          refine tr_getK (k := 19) q14 d_TrustDeskModel_isWell_1 f_TrustDeskModel_224_13 ?_
          have := mz_hi v15
          refine mv_if_neZ (tgt := 11) (a := v15.toInt) d_TrustDeskModel_isWell_4 (by decide) rfl (fun b415 => absurd b415 (by omega)) (fun b415 => ?_)
          refine mv_iconst (v := 1) d_TrustDeskModel_isWell_7 (by decide) ?_
          refine mv_goto (tgt := 12) d_TrustDeskModel_isWell_8 (by decide) ?_
          refine mv_iret d_TrustDeskModel_isWell_12 rfl (by decide) ?_
          refine mv_if_ne_t (tgt := 73) d_TrustDeskModel_compares_69 (by decide) (by decide) ?_
          refine mv_aload_n d_TrustDeskModel_compares_73 rfl rfl ?_
          obtain ⟨_, b422, -⟩ := I6.1 _ _ t11
          refine mv_callV (kc' := 0) (ks' := 0) (As := []) (st9 := [.ref o0]) d_TrustDeskModel_compares_74 lV_TrustDeskModel_237 b422 rfl (tc_TrustDeskModel_next_x (d := (d + 19)) (x9 := x9) (o0 := o0) t11 R8 I6.start) rfl (Nat.le_of_ble_eq_true rfl) (Nat.le_of_ble_eq_true rfl) (Nat.le_of_ble_eq_true rfl) (hst := rfl) (fun b416r M417 n418 b416 => ?_)
          obtain ⟨T419, J420, rfl, R423, f424, f425⟩ := b416
          have I421 := I6.call J420 (tm_sub (by decide)) (Or.inl rfl)
          have t426 := J420.up t11
          have := (rv_c I6 J420 (I6.up h_o0) (k := 19) rfl)
          have := (rv_c I6 J420 (I6.up h_o0) (k := 22) rfl)
          have h428 : rv M2 o0 16 + 1 ≤ rv M2 o0 15 := (by have := R8.1 15 _ _ rfl; have := R8.1 16 _ _ rfl; have := R8.1 19 _ _ rfl; have := E12.f yS; omega)
          have E427 : rE M0 M417 o0 1 1 := E12.next f424 f425 (rv_c I6 J420 (I6.up h_o0) (k := 19) rfl) (rE_ha I6 J420 (I6.up h_o0) (by decide)) (e := 1) h428 (by decide)
          have q429 := J420.keep t11 (by decide) q14
          refine mv_aload_n d_TrustDeskModel_compares_77 rfl rfl ?_
          obtain ⟨_, b436, -⟩ := I421.1 _ _ t426
          refine mv_callV (kc' := 0) (ks' := 0) (As := []) (st9 := [.ref o0]) d_TrustDeskModel_compares_78 lV_TrustDeskModel_288 b436 rfl (tc_TrustDeskModel_sum_q5_x (d := d) (x9 := x9) (o0 := o0) t426 R423 E427.1 (by have := R423.1 15 _ _ rfl; have := R423.1 16 _ _ rfl; have := R423.1 19 _ _ rfl; have := E427.f yS; omega) (by have := R423.1 15 _ _ rfl; have := R423.1 16 _ _ rfl; have := R423.1 19 _ _ rfl; have := E427.f yS; omega) I421.start) rfl (Nat.le_of_ble_eq_true rfl) (Nat.le_of_ble_eq_true rfl) (Nat.le_of_ble_eq_true rfl) (hst := rfl) (fun b430r M431 n432 b430 => ?_)
          obtain ⟨T433, J434, rfl, R437, f438, f439⟩ := b430
          have I435 := I421.call J434 (tm_sub (by decide)) (Or.inl rfl)
          have t440 := J434.up t426
          have E441 : rE M0 M431 o0 2 1 := E427.trans f438 (by decide) (yR.2 5 _ _ rfl 44).1 (by decide) (by decide)
          have := f438.w
          refine mv_aload_n d_TrustDeskModel_compares_81 rfl rfl ?_
          refine mv_iload_n d_TrustDeskModel_compares_82 rfl rfl ?_
          obtain ⟨_, b448, -⟩ := I435.1 _ _ t440
          refine mv_callV (kc' := 0) (ks' := 0) (As := [.int (-5)]) (st9 := [.int (-5), .ref o0]) d_TrustDeskModel_compares_83 lV_TrustDeskModel_279 b448 rfl (tc_TrustDeskModel_emits_x (d := (d + 19)) (x9 := x9) (o0 := o0) (x1 := (-5)) t440 R437 (by have := R437.1 15 _ _ rfl; have := R437.1 16 _ _ rfl; have := R437.1 19 _ _ rfl; have := E441.f yS; omega) (by decide) I435.start) rfl (Nat.le_of_ble_eq_true rfl) (Nat.le_of_ble_eq_true rfl) (Nat.le_of_ble_eq_true rfl) (hst := rfl) (fun b442r M443 n444 b442 => ?_)
          obtain ⟨T445, J446, rfl, R449, f450⟩ := b442
          have I447 := I435.call J446 (tm_sub (by decide)) (Or.inl rfl)
          have t451 := J446.up t440
          have := (rv_c I435 J446 (I435.up h_o0) (k := 16) rfl)
          have := (rv_c I435 J446 (I435.up h_o0) (k := 17) rfl)
          have := (rv_c I435 J446 (I435.up h_o0) (k := 19) rfl)
          have := (rv_c I435 J446 (I435.up h_o0) (k := 22) rfl)
          have E452 : rE M0 M443 o0 1 0 := E441.emit f450 (rE_hv I435 J446 (I435.up h_o0) 15 19 (by decide)) (yR.2 5 _ _ rfl 44).1 (by decide) (Or.inr (Or.inr ⟨by decide, by decide, by decide, by decide⟩)) (by decide)
          exact mv_vret d_TrustDeskModel_compares_86 rfl ⟨_, I447, rfl, R449, E452, (by have := R449.1 15 _ _ rfl; have := R449.1 16 _ _ rfl; have := R449.1 19 _ _ rfl; have := E452.f yS; omega)⟩
      · refine mv_iconst (v := 1) d_TrustDeskModel_isSign_16 (by decide) ?_
        refine mv_goto (tgt := 21) d_TrustDeskModel_isSign_17 (by decide) ?_
        refine mv_iret d_TrustDeskModel_isSign_21 rfl (by decide) ?_
        refine mv_if_eq_f (tgt := 26) d_TrustDeskModel_compares_18 (by decide) (by decide) ?_
        refine mv_bipush (v := (-4)) d_TrustDeskModel_compares_21 (by decide) ?_
        refine mv_goto (tgt := 55) d_TrustDeskModel_compares_23 (by decide) ?_
        refine mv_istore_n (lv' := [(1, .int (-4)), (0, .ref o0)]) d_TrustDeskModel_compares_55 rfl (by decide) rfl ?_
        refine mv_iload_n d_TrustDeskModel_compares_56 rfl rfl ?_
        refine mv_if_ne_t (tgt := 65) d_TrustDeskModel_compares_57 (by decide) (by decide) ?_
        refine mv_aload_n d_TrustDeskModel_compares_65 rfl rfl ?_
        obtain ⟨_, b453, -⟩ := I6.1 _ _ t11
        refine mv_callV (kc1 := 0) (ks1 := 0) (kc' := 0) (ks' := 0) (As := []) (st9 := [.ref o0]) d_TrustDeskModel_compares_66 lV_TrustDeskModel_230 b453 rfl (mj_enter (by decide) (Nat.le_of_ble_eq_true rfl) ?_) rfl (Nat.le_of_ble_eq_true rfl) (Nat.le_of_ble_eq_true rfl) (Nat.le_of_ble_eq_true rfl) (hst := rfl) (fun _ _ _ h => h)
        refine mv_aload_n d_TrustDeskModel_isWell_0 rfl rfl ?_
        refine tr_getK (k := 19) q14 d_TrustDeskModel_isWell_1 f_TrustDeskModel_224_13 ?_
        have := mz_hi v15
        refine mv_if_neZ (tgt := 11) (a := v15.toInt) d_TrustDeskModel_isWell_4 (by decide) rfl (fun b454 => absurd b454 (by omega)) (fun b454 => ?_)
        refine mv_iconst (v := 1) d_TrustDeskModel_isWell_7 (by decide) ?_
        refine mv_goto (tgt := 12) d_TrustDeskModel_isWell_8 (by decide) ?_
        refine mv_iret d_TrustDeskModel_isWell_12 rfl (by decide) ?_
        refine mv_if_ne_t (tgt := 73) d_TrustDeskModel_compares_69 (by decide) (by decide) ?_
        refine mv_aload_n d_TrustDeskModel_compares_73 rfl rfl ?_
        obtain ⟨_, b461, -⟩ := I6.1 _ _ t11
        refine mv_callV (kc' := 0) (ks' := 0) (As := []) (st9 := [.ref o0]) d_TrustDeskModel_compares_74 lV_TrustDeskModel_237 b461 rfl (tc_TrustDeskModel_next_x (d := (d + 19)) (x9 := x9) (o0 := o0) t11 R8 I6.start) rfl (Nat.le_of_ble_eq_true rfl) (Nat.le_of_ble_eq_true rfl) (Nat.le_of_ble_eq_true rfl) (hst := rfl) (fun b455r M456 n457 b455 => ?_)
        obtain ⟨T458, J459, rfl, R462, f463, f464⟩ := b455
        have I460 := I6.call J459 (tm_sub (by decide)) (Or.inl rfl)
        have t465 := J459.up t11
        have := (rv_c I6 J459 (I6.up h_o0) (k := 19) rfl)
        have := (rv_c I6 J459 (I6.up h_o0) (k := 22) rfl)
        have h467 : rv M2 o0 16 + 1 ≤ rv M2 o0 15 := (by have := R8.1 15 _ _ rfl; have := R8.1 16 _ _ rfl; have := R8.1 19 _ _ rfl; have := E12.f yS; omega)
        have E466 : rE M0 M456 o0 1 1 := E12.next f463 f464 (rv_c I6 J459 (I6.up h_o0) (k := 19) rfl) (rE_ha I6 J459 (I6.up h_o0) (by decide)) (e := 1) h467 (by decide)
        have q468 := J459.keep t11 (by decide) q14
        refine mv_aload_n d_TrustDeskModel_compares_77 rfl rfl ?_
        obtain ⟨_, b475, -⟩ := I460.1 _ _ t465
        refine mv_callV (kc' := 0) (ks' := 0) (As := []) (st9 := [.ref o0]) d_TrustDeskModel_compares_78 lV_TrustDeskModel_288 b475 rfl (tc_TrustDeskModel_sum_q5_x (d := d) (x9 := x9) (o0 := o0) t465 R462 E466.1 (by have := R462.1 15 _ _ rfl; have := R462.1 16 _ _ rfl; have := R462.1 19 _ _ rfl; have := E466.f yS; omega) (by have := R462.1 15 _ _ rfl; have := R462.1 16 _ _ rfl; have := R462.1 19 _ _ rfl; have := E466.f yS; omega) I460.start) rfl (Nat.le_of_ble_eq_true rfl) (Nat.le_of_ble_eq_true rfl) (Nat.le_of_ble_eq_true rfl) (hst := rfl) (fun b469r M470 n471 b469 => ?_)
        obtain ⟨T472, J473, rfl, R476, f477, f478⟩ := b469
        have I474 := I460.call J473 (tm_sub (by decide)) (Or.inl rfl)
        have t479 := J473.up t465
        have E480 : rE M0 M470 o0 2 1 := E466.trans f477 (by decide) (yR.2 5 _ _ rfl 44).1 (by decide) (by decide)
        have := f477.w
        refine mv_aload_n d_TrustDeskModel_compares_81 rfl rfl ?_
        refine mv_iload_n d_TrustDeskModel_compares_82 rfl rfl ?_
        obtain ⟨_, b487, -⟩ := I474.1 _ _ t479
        refine mv_callV (kc' := 0) (ks' := 0) (As := [.int (-4)]) (st9 := [.int (-4), .ref o0]) d_TrustDeskModel_compares_83 lV_TrustDeskModel_279 b487 rfl (tc_TrustDeskModel_emits_x (d := (d + 19)) (x9 := x9) (o0 := o0) (x1 := (-4)) t479 R476 (by have := R476.1 15 _ _ rfl; have := R476.1 16 _ _ rfl; have := R476.1 19 _ _ rfl; have := E480.f yS; omega) (by decide) I474.start) rfl (Nat.le_of_ble_eq_true rfl) (Nat.le_of_ble_eq_true rfl) (Nat.le_of_ble_eq_true rfl) (hst := rfl) (fun b481r M482 n483 b481 => ?_)
        obtain ⟨T484, J485, rfl, R488, f489⟩ := b481
        have I486 := I474.call J485 (tm_sub (by decide)) (Or.inl rfl)
        have t490 := J485.up t479
        have := (rv_c I474 J485 (I474.up h_o0) (k := 16) rfl)
        have := (rv_c I474 J485 (I474.up h_o0) (k := 17) rfl)
        have := (rv_c I474 J485 (I474.up h_o0) (k := 19) rfl)
        have := (rv_c I474 J485 (I474.up h_o0) (k := 22) rfl)
        have E491 : rE M0 M482 o0 1 0 := E480.emit f489 (rE_hv I474 J485 (I474.up h_o0) 15 19 (by decide)) (yR.2 5 _ _ rfl 44).1 (by decide) (Or.inr (Or.inr ⟨by decide, by decide, by decide, by decide⟩)) (by decide)
        exact mv_vret d_TrustDeskModel_compares_86 rfl ⟨_, I486, rfl, R488, E491, (by have := R488.1 15 _ _ rfl; have := R488.1 16 _ _ rfl; have := R488.1 19 _ _ rfl; have := E491.f yS; omega)⟩
def w_TrustDeskModel_compares_q4_x : List Nat := [1315, 1316, 1317, 1318, 1319, 1320, 1322, 20004, 20005]
theorem tc_TrustDeskModel_compares_q4_x {g : mj_G} {l : Launch} {d : Nat} {T0 : tm_H} {M0 : mj_M} {n0 x9 : Nat} {o0 : Nat} (h_o0 : T0 o0 = some (0, 13, 0)) (yR : rI M0 o0) (yT : rT M0 o0) (yS : rv M0 o0 19 = 0 → ra M0 o0 5 44 ≤ rv M0 o0 16) (yL : rv M0 o0 19 ≠ 0 ∨ (1 ≤ rv M0 o0 22 ∧ rv M0 o0 22 ≤ 4)) (I0 : tm_I tm_FT (tm_in w_TrustDeskModel_compares_q4_x) x9 T0 M0 n0 T0 M0 n0) : mj_Met g l kY_TrustDeskModel_compares (d + 18) [.ref o0] M0 n0 0 0 (tm_Q tm_FT (tm_in w_TrustDeskModel_compares_q4_x) x9 T0 M0 n0 (fun r _ M => r = none ∧ rI M o0 ∧ (rE M0 M o0 1 0) ∧ (rv M o0 19 = 0 → rv M o0 22 = rv M0 o0 22))) := by
  refine mj_enter (by decide) (Nat.le_of_ble_eq_true rfl) ?_
  have yE0 := rE.rf yT
  refine mv_aload_n d_TrustDeskModel_compares_0 rfl rfl ?_
  obtain ⟨_, b7, -⟩ := I0.1 _ _ h_o0
  refine mv_callV (kc' := 0) (ks' := 0) (As := []) (st9 := [.ref o0]) d_TrustDeskModel_compares_1 lV_TrustDeskModel_288 b7 rfl (tc_TrustDeskModel_sum_q4_x (d := d) (x9 := x9) (o0 := o0) h_o0 yR yE0.1 (by have := yR.1 15 _ _ rfl; have := yR.1 16 _ _ rfl; have := yR.1 19 _ _ rfl; have := yE0.f yS; omega) (by have := yR.1 15 _ _ rfl; have := yR.1 16 _ _ rfl; have := yR.1 19 _ _ rfl; have := yE0.f yS; omega) I0.start) rfl (Nat.le_of_ble_eq_true rfl) (Nat.le_of_ble_eq_true rfl) (Nat.le_of_ble_eq_true rfl) (hst := rfl) (fun b1r M2 n3 b1 => ?_)
  obtain ⟨T4, J5, rfl, R8, f9, f10⟩ := b1
  have I6 := I0.call J5 (tm_sub (by decide)) (Or.inl rfl)
  have t11 := J5.up h_o0
  have E12 : rE M0 M2 o0 1 0 := yE0.trans f9 (by decide) (yR.2 5 _ _ rfl 44).1 (by decide) (by decide)
  have := f9.w
  refine mv_aload_n d_TrustDeskModel_compares_4 rfl rfl ?_
  obtain ⟨_, b13, -⟩ := I6.1 _ _ t11
  refine mv_callV (kc1 := 0) (ks1 := 0) (kc' := 0) (ks' := 0) (As := []) (st9 := [.ref o0]) d_TrustDeskModel_compares_5 lV_TrustDeskModel_230 b13 rfl (mj_enter (by decide) (Nat.le_of_ble_eq_true rfl) ?_) rfl (Nat.le_of_ble_eq_true rfl) (Nat.le_of_ble_eq_true rfl) (Nat.le_of_ble_eq_true rfl) (hst := rfl) (fun _ _ _ h => h)
  refine mv_aload_n d_TrustDeskModel_isWell_0 rfl rfl ?_
  obtain ⟨v15, q14⟩ := tm_atI I6 t11 (k := 19) rfl
  refine tr_getK q14 d_TrustDeskModel_isWell_1 f_TrustDeskModel_224_13 ?_
  have := R8.f (k := 19) q14 rfl
  have := tm_rv q14
  have := mz_hi v15
  refine mv_if_neZ (tgt := 11) (a := v15.toInt) d_TrustDeskModel_isWell_4 (by decide) rfl (fun b16 => ?_) (fun b16 => ?_)
  · refine mv_iconst (v := 0) d_TrustDeskModel_isWell_11 (by decide) ?_
    refine mv_iret d_TrustDeskModel_isWell_12 rfl (by decide) ?_
    refine mv_if_ne_f (tgt := 12) d_TrustDeskModel_compares_8 (by decide) (by decide) ?_
    exact mv_vret d_TrustDeskModel_compares_11 rfl ⟨_, I6, rfl, R8, E12, (by have := R8.1 15 _ _ rfl; have := R8.1 16 _ _ rfl; have := R8.1 19 _ _ rfl; have := E12.f yS; omega)⟩
  · refine mv_iconst (v := 1) d_TrustDeskModel_isWell_7 (by decide) ?_
    refine mv_goto (tgt := 12) d_TrustDeskModel_isWell_8 (by decide) ?_
    refine mv_iret d_TrustDeskModel_isWell_12 rfl (by decide) ?_
    refine mv_if_ne_t (tgt := 12) d_TrustDeskModel_compares_8 (by decide) (by decide) ?_
    refine mv_aload_n d_TrustDeskModel_compares_12 rfl rfl ?_
    refine mv_bipush (v := 60) d_TrustDeskModel_compares_13 (by decide) ?_
    obtain ⟨_, b17, -⟩ := I6.1 _ _ t11
    refine mv_callV (kc1 := 0) (ks1 := 0) (kc' := 0) (ks' := 0) (As := [.int 60]) (st9 := [.int 60, .ref o0]) d_TrustDeskModel_compares_15 lV_TrustDeskModel_234 b17 rfl (mj_enter (by decide) (Nat.le_of_ble_eq_true rfl) ?_) rfl (Nat.le_of_ble_eq_true rfl) (Nat.le_of_ble_eq_true rfl) (Nat.le_of_ble_eq_true rfl) (hst := rfl) (fun _ _ _ h => h)
    refine mv_aload_n d_TrustDeskModel_isSign_0 rfl rfl ?_
    obtain ⟨v19, q18⟩ := tm_atI I6 t11 (k := 17) rfl
    refine tr_getK q18 d_TrustDeskModel_isSign_1 f_TrustDeskModel_198_13 ?_
    have := tm_rv q18
    refine mv_iconst (v := 4) d_TrustDeskModel_isSign_4 (by decide) ?_
    have := mz_hi v19
    refine mv_icmp_neZ (tgt := 20) (a := v19.toInt) (b := 4) d_TrustDeskModel_isSign_5 (by decide) rfl (by decide) (fun b20 => ?_) (fun b20 => ?_)
    · refine mv_iconst (v := 0) d_TrustDeskModel_isSign_20 (by decide) ?_
      refine mv_iret d_TrustDeskModel_isSign_21 rfl (by decide) ?_
      refine mv_if_eq_t (tgt := 26) d_TrustDeskModel_compares_18 (by decide) (by decide) ?_
      refine mv_aload_n d_TrustDeskModel_compares_26 rfl rfl ?_
      refine mv_bipush (v := 62) d_TrustDeskModel_compares_27 (by decide) ?_
      obtain ⟨_, b21, -⟩ := I6.1 _ _ t11
      refine mv_callV (kc1 := 0) (ks1 := 0) (kc' := 0) (ks' := 0) (As := [.int 62]) (st9 := [.int 62, .ref o0]) d_TrustDeskModel_compares_29 lV_TrustDeskModel_234 b21 rfl (mj_enter (by decide) (Nat.le_of_ble_eq_true rfl) ?_) rfl (Nat.le_of_ble_eq_true rfl) (Nat.le_of_ble_eq_true rfl) (Nat.le_of_ble_eq_true rfl) (hst := rfl) (fun _ _ _ h => h)
      refine mv_aload_n d_TrustDeskModel_isSign_0 rfl rfl ?_
      refine tr_getK (k := 17) q18 d_TrustDeskModel_isSign_1 f_TrustDeskModel_198_13 ?_
      refine mv_iconst (v := 4) d_TrustDeskModel_isSign_4 (by decide) ?_
      have := mz_hi v19
      refine mv_icmp_neZ (tgt := 20) (a := v19.toInt) (b := 4) d_TrustDeskModel_isSign_5 (by decide) rfl (by decide) (fun b22 => ?_) (fun b22 => ?_)
      · refine mv_iconst (v := 0) d_TrustDeskModel_isSign_20 (by decide) ?_
        refine mv_iret d_TrustDeskModel_isSign_21 rfl (by decide) ?_
        refine mv_if_eq_t (tgt := 40) d_TrustDeskModel_compares_32 (by decide) (by decide) ?_
        refine mv_aload_n d_TrustDeskModel_compares_40 rfl rfl ?_
        refine mv_bipush (v := 61) d_TrustDeskModel_compares_41 (by decide) ?_
        obtain ⟨_, b23, -⟩ := I6.1 _ _ t11
        refine mv_callV (kc1 := 0) (ks1 := 0) (kc' := 0) (ks' := 0) (As := [.int 61]) (st9 := [.int 61, .ref o0]) d_TrustDeskModel_compares_43 lV_TrustDeskModel_234 b23 rfl (mj_enter (by decide) (Nat.le_of_ble_eq_true rfl) ?_) rfl (Nat.le_of_ble_eq_true rfl) (Nat.le_of_ble_eq_true rfl) (Nat.le_of_ble_eq_true rfl) (hst := rfl) (fun _ _ _ h => h)
        refine mv_aload_n d_TrustDeskModel_isSign_0 rfl rfl ?_
        refine tr_getK (k := 17) q18 d_TrustDeskModel_isSign_1 f_TrustDeskModel_198_13 ?_
        refine mv_iconst (v := 4) d_TrustDeskModel_isSign_4 (by decide) ?_
        have := mz_hi v19
        refine mv_icmp_neZ (tgt := 20) (a := v19.toInt) (b := 4) d_TrustDeskModel_isSign_5 (by decide) rfl (by decide) (fun b24 => ?_) (fun b24 => ?_)
        · refine mv_iconst (v := 0) d_TrustDeskModel_isSign_20 (by decide) ?_
          refine mv_iret d_TrustDeskModel_isSign_21 rfl (by decide) ?_
          refine mv_if_eq_t (tgt := 54) d_TrustDeskModel_compares_46 (by decide) (by decide) ?_
          refine mv_iconst (v := 0) d_TrustDeskModel_compares_54 (by decide) ?_
          refine mv_istore_n (lv' := [(1, .int 0), (0, .ref o0)]) d_TrustDeskModel_compares_55 rfl (by decide) rfl ?_
          refine mv_iload_n d_TrustDeskModel_compares_56 rfl rfl ?_
          refine mv_if_ne_f (tgt := 65) d_TrustDeskModel_compares_57 (by decide) (by decide) ?_
          refine mv_aload_n d_TrustDeskModel_compares_60 rfl rfl ?_
          refine mv_iconst (v := 1) d_TrustDeskModel_compares_61 (by decide) ?_
          obtain ⟨_, b31, -⟩ := I6.1 _ _ t11
          refine mv_callV (kc' := 0) (ks' := 0) (As := [.int 1]) (st9 := [.int 1, .ref o0]) d_TrustDeskModel_compares_62 lV_TrustDeskModel_240 b31 rfl (tc_TrustDeskModel_fails_x (d := (d + 17)) (x9 := x9) (o0 := o0) (x1 := 1) t11 R8 (by decide) I6.start) rfl (Nat.le_of_ble_eq_true rfl) (Nat.le_of_ble_eq_true rfl) (Nat.le_of_ble_eq_true rfl) (hst := rfl) (fun b25r M26 n27 b25 => ?_)
          obtain ⟨T28, J29, rfl, R32, f33⟩ := b25
          have I30 := I6.call J29 (tm_sub (by decide)) (Or.inl rfl)
          have t34 := J29.up t11
          have := (rv_c I6 J29 (I6.up h_o0) (k := 16) rfl)
          have := (rv_c I6 J29 (I6.up h_o0) (k := 17) rfl)
          have := (rv_c I6 J29 (I6.up h_o0) (k := 22) rfl)
          have E35 : rE M0 M26 o0 1 0 := E12.fails (rE_hv I6 J29 (I6.up h_o0) 15 18 (by decide)) (rE_ha I6 J29 (I6.up h_o0) (by decide)) f33 1 0
          have q36 := J29.keep t11 (by decide) q18
          refine mv_aload_n d_TrustDeskModel_compares_65 rfl rfl ?_
          obtain ⟨_, b37, -⟩ := I30.1 _ _ t34
          refine mv_callV (kc1 := 0) (ks1 := 0) (kc' := 0) (ks' := 0) (As := []) (st9 := [.ref o0]) d_TrustDeskModel_compares_66 lV_TrustDeskModel_230 b37 rfl (mj_enter (by decide) (Nat.le_of_ble_eq_true rfl) ?_) rfl (Nat.le_of_ble_eq_true rfl) (Nat.le_of_ble_eq_true rfl) (Nat.le_of_ble_eq_true rfl) (hst := rfl) (fun _ _ _ h => h)
          refine mv_aload_n d_TrustDeskModel_isWell_0 rfl rfl ?_
          obtain ⟨v39, q38⟩ := tm_atI I30 t34 (k := 19) rfl
          refine tr_getK q38 d_TrustDeskModel_isWell_1 f_TrustDeskModel_224_13 ?_
          have := R32.f (k := 19) q38 rfl
          have := tm_rv q38
          have := mz_hi v39
          refine mv_if_neZ (tgt := 11) (a := v39.toInt) d_TrustDeskModel_isWell_4 (by decide) rfl (fun b40 => ?_) (fun b40 => ?_)
          · refine mv_iconst (v := 0) d_TrustDeskModel_isWell_11 (by decide) ?_
            refine mv_iret d_TrustDeskModel_isWell_12 rfl (by decide) ?_
            refine mv_if_ne_f (tgt := 73) d_TrustDeskModel_compares_69 (by decide) (by decide) ?_
            exact mv_vret d_TrustDeskModel_compares_72 rfl ⟨_, I30, rfl, R32, E35, (by have := R32.1 15 _ _ rfl; have := R32.1 16 _ _ rfl; have := R32.1 19 _ _ rfl; have := E35.f yS; omega)⟩
          · refine mv_iconst (v := 1) d_TrustDeskModel_isWell_7 (by decide) ?_
            refine mv_goto (tgt := 12) d_TrustDeskModel_isWell_8 (by decide) ?_
            refine mv_iret d_TrustDeskModel_isWell_12 rfl (by decide) ?_
            refine mv_if_ne_t (tgt := 73) d_TrustDeskModel_compares_69 (by decide) (by decide) ?_
            refine mv_aload_n d_TrustDeskModel_compares_73 rfl rfl ?_
            obtain ⟨_, b47, -⟩ := I30.1 _ _ t34
            refine mv_callV (kc' := 0) (ks' := 0) (As := []) (st9 := [.ref o0]) d_TrustDeskModel_compares_74 lV_TrustDeskModel_237 b47 rfl (tc_TrustDeskModel_next_x (d := (d + 16)) (x9 := x9) (o0 := o0) t34 R32 I30.start) rfl (Nat.le_of_ble_eq_true rfl) (Nat.le_of_ble_eq_true rfl) (Nat.le_of_ble_eq_true rfl) (hst := rfl) (fun b41r M42 n43 b41 => ?_)
            obtain ⟨T44, J45, rfl, R48, f49, f50⟩ := b41
            have I46 := I30.call J45 (tm_sub (by decide)) (Or.inl rfl)
            have t51 := J45.up t34
            have := (rv_c I30 J45 (I30.up h_o0) (k := 19) rfl)
            have := (rv_c I30 J45 (I30.up h_o0) (k := 22) rfl)
            have h53 : rv M26 o0 16 + 1 ≤ rv M26 o0 15 := (by have := R32.1 15 _ _ rfl; have := R32.1 16 _ _ rfl; have := R32.1 19 _ _ rfl; have := E35.f yS; omega)
            have E52 : rE M0 M42 o0 1 1 := E35.next f49 f50 (rv_c I30 J45 (I30.up h_o0) (k := 19) rfl) (rE_ha I30 J45 (I30.up h_o0) (by decide)) (e := 1) h53 (by decide)
            have q54 := J45.keep t34 (by decide) q38
            refine mv_aload_n d_TrustDeskModel_compares_77 rfl rfl ?_
            obtain ⟨_, b61, -⟩ := I46.1 _ _ t51
            refine mv_callV (kc' := 0) (ks' := 0) (As := []) (st9 := [.ref o0]) d_TrustDeskModel_compares_78 lV_TrustDeskModel_288 b61 rfl (tc_TrustDeskModel_sum_q4_x (d := d) (x9 := x9) (o0 := o0) t51 R48 E52.1 (by have := R48.1 15 _ _ rfl; have := R48.1 16 _ _ rfl; have := R48.1 19 _ _ rfl; have := E52.f yS; omega) (by have := R48.1 15 _ _ rfl; have := R48.1 16 _ _ rfl; have := R48.1 19 _ _ rfl; have := E52.f yS; omega) I46.start) rfl (Nat.le_of_ble_eq_true rfl) (Nat.le_of_ble_eq_true rfl) (Nat.le_of_ble_eq_true rfl) (hst := rfl) (fun b55r M56 n57 b55 => ?_)
            obtain ⟨T58, J59, rfl, R62, f63, f64⟩ := b55
            have I60 := I46.call J59 (tm_sub (by decide)) (Or.inl rfl)
            have t65 := J59.up t51
            have E66 : rE M0 M56 o0 2 1 := E52.trans f63 (by decide) (yR.2 5 _ _ rfl 44).1 (by decide) (by decide)
            have := f63.w
            refine mv_aload_n d_TrustDeskModel_compares_81 rfl rfl ?_
            refine mv_iload_n d_TrustDeskModel_compares_82 rfl rfl ?_
            obtain ⟨_, b73, -⟩ := I60.1 _ _ t65
            refine mv_callV (kc' := 0) (ks' := 0) (As := [.int 0]) (st9 := [.int 0, .ref o0]) d_TrustDeskModel_compares_83 lV_TrustDeskModel_279 b73 rfl (tc_TrustDeskModel_emits_x (d := (d + 16)) (x9 := x9) (o0 := o0) (x1 := 0) t65 R62 (by have := R62.1 15 _ _ rfl; have := R62.1 16 _ _ rfl; have := R62.1 19 _ _ rfl; have := E66.f yS; omega) (by decide) I60.start) rfl (Nat.le_of_ble_eq_true rfl) (Nat.le_of_ble_eq_true rfl) (Nat.le_of_ble_eq_true rfl) (hst := rfl) (fun b67r M68 n69 b67 => ?_)
            obtain ⟨T70, J71, rfl, R74, f75⟩ := b67
            have I72 := I60.call J71 (tm_sub (by decide)) (Or.inl rfl)
            have t76 := J71.up t65
            have := (rv_c I60 J71 (I60.up h_o0) (k := 16) rfl)
            have := (rv_c I60 J71 (I60.up h_o0) (k := 17) rfl)
            have := (rv_c I60 J71 (I60.up h_o0) (k := 19) rfl)
            have := (rv_c I60 J71 (I60.up h_o0) (k := 22) rfl)
            have E77 : rE M0 M68 o0 3 0 := E66.emit f75 (rE_hv I60 J71 (I60.up h_o0) 15 19 (by decide)) (yR.2 5 _ _ rfl 44).1 (by decide) (Or.inl ⟨by have := R62.1 15 _ _ rfl; have := R62.1 16 _ _ rfl; have := R62.1 19 _ _ rfl; have := E66.f yS; omega, by decide⟩) (by decide)
            exact mv_vret d_TrustDeskModel_compares_86 rfl ⟨_, I72, rfl, R74, E77.vac (by have := R74.1 15 _ _ rfl; have := R74.1 16 _ _ rfl; have := R74.1 19 _ _ rfl; have := E77.f yS; omega) 1 0, (by have := R74.1 15 _ _ rfl; have := R74.1 16 _ _ rfl; have := R74.1 19 _ _ rfl; have := E77.f yS; omega)⟩
        · refine mv_aload_n d_TrustDeskModel_isSign_8 rfl rfl ?_
          obtain ⟨v79, q78⟩ := tm_atI I6 t11 (k := 18) rfl
          refine tr_getK q78 d_TrustDeskModel_isSign_9 f_TrustDeskModel_201_13 ?_
          have := R8.f (k := 18) q78 rfl
          have := tm_rv q78
          refine mv_iload_n d_TrustDeskModel_isSign_12 rfl rfl ?_
          have := mz_hi v79
          refine mv_icmp_neZ (tgt := 20) (a := v79.toInt) (b := 61) d_TrustDeskModel_isSign_13 (by decide) rfl (by decide) (fun b80 => ?_) (fun b80 => ?_)
          · refine mv_iconst (v := 0) d_TrustDeskModel_isSign_20 (by decide) ?_
            refine mv_iret d_TrustDeskModel_isSign_21 rfl (by decide) ?_
            refine mv_if_eq_t (tgt := 54) d_TrustDeskModel_compares_46 (by decide) (by decide) ?_
            refine mv_iconst (v := 0) d_TrustDeskModel_compares_54 (by decide) ?_
            refine mv_istore_n (lv' := [(1, .int 0), (0, .ref o0)]) d_TrustDeskModel_compares_55 rfl (by decide) rfl ?_
            refine mv_iload_n d_TrustDeskModel_compares_56 rfl rfl ?_
            refine mv_if_ne_f (tgt := 65) d_TrustDeskModel_compares_57 (by decide) (by decide) ?_
            refine mv_aload_n d_TrustDeskModel_compares_60 rfl rfl ?_
            refine mv_iconst (v := 1) d_TrustDeskModel_compares_61 (by decide) ?_
            obtain ⟨_, b87, -⟩ := I6.1 _ _ t11
            refine mv_callV (kc' := 0) (ks' := 0) (As := [.int 1]) (st9 := [.int 1, .ref o0]) d_TrustDeskModel_compares_62 lV_TrustDeskModel_240 b87 rfl (tc_TrustDeskModel_fails_x (d := (d + 17)) (x9 := x9) (o0 := o0) (x1 := 1) t11 R8 (by decide) I6.start) rfl (Nat.le_of_ble_eq_true rfl) (Nat.le_of_ble_eq_true rfl) (Nat.le_of_ble_eq_true rfl) (hst := rfl) (fun b81r M82 n83 b81 => ?_)
            obtain ⟨T84, J85, rfl, R88, f89⟩ := b81
            have I86 := I6.call J85 (tm_sub (by decide)) (Or.inl rfl)
            have t90 := J85.up t11
            have := (rv_c I6 J85 (I6.up h_o0) (k := 16) rfl)
            have := (rv_c I6 J85 (I6.up h_o0) (k := 17) rfl)
            have := (rv_c I6 J85 (I6.up h_o0) (k := 22) rfl)
            have E91 : rE M0 M82 o0 1 0 := E12.fails (rE_hv I6 J85 (I6.up h_o0) 15 18 (by decide)) (rE_ha I6 J85 (I6.up h_o0) (by decide)) f89 1 0
            have q92 := J85.keep t11 (by decide) q18
            have q93 := J85.keep t11 (by decide) q78
            refine mv_aload_n d_TrustDeskModel_compares_65 rfl rfl ?_
            obtain ⟨_, b94, -⟩ := I86.1 _ _ t90
            refine mv_callV (kc1 := 0) (ks1 := 0) (kc' := 0) (ks' := 0) (As := []) (st9 := [.ref o0]) d_TrustDeskModel_compares_66 lV_TrustDeskModel_230 b94 rfl (mj_enter (by decide) (Nat.le_of_ble_eq_true rfl) ?_) rfl (Nat.le_of_ble_eq_true rfl) (Nat.le_of_ble_eq_true rfl) (Nat.le_of_ble_eq_true rfl) (hst := rfl) (fun _ _ _ h => h)
            refine mv_aload_n d_TrustDeskModel_isWell_0 rfl rfl ?_
            obtain ⟨v96, q95⟩ := tm_atI I86 t90 (k := 19) rfl
            refine tr_getK q95 d_TrustDeskModel_isWell_1 f_TrustDeskModel_224_13 ?_
            have := R88.f (k := 19) q95 rfl
            have := tm_rv q95
            have := mz_hi v96
            refine mv_if_neZ (tgt := 11) (a := v96.toInt) d_TrustDeskModel_isWell_4 (by decide) rfl (fun b97 => ?_) (fun b97 => ?_)
            · refine mv_iconst (v := 0) d_TrustDeskModel_isWell_11 (by decide) ?_
              refine mv_iret d_TrustDeskModel_isWell_12 rfl (by decide) ?_
              refine mv_if_ne_f (tgt := 73) d_TrustDeskModel_compares_69 (by decide) (by decide) ?_
              exact mv_vret d_TrustDeskModel_compares_72 rfl ⟨_, I86, rfl, R88, E91, (by have := R88.1 15 _ _ rfl; have := R88.1 16 _ _ rfl; have := R88.1 19 _ _ rfl; have := E91.f yS; omega)⟩
            · refine mv_iconst (v := 1) d_TrustDeskModel_isWell_7 (by decide) ?_
              refine mv_goto (tgt := 12) d_TrustDeskModel_isWell_8 (by decide) ?_
              refine mv_iret d_TrustDeskModel_isWell_12 rfl (by decide) ?_
              refine mv_if_ne_t (tgt := 73) d_TrustDeskModel_compares_69 (by decide) (by decide) ?_
              refine mv_aload_n d_TrustDeskModel_compares_73 rfl rfl ?_
              obtain ⟨_, b104, -⟩ := I86.1 _ _ t90
              refine mv_callV (kc' := 0) (ks' := 0) (As := []) (st9 := [.ref o0]) d_TrustDeskModel_compares_74 lV_TrustDeskModel_237 b104 rfl (tc_TrustDeskModel_next_x (d := (d + 16)) (x9 := x9) (o0 := o0) t90 R88 I86.start) rfl (Nat.le_of_ble_eq_true rfl) (Nat.le_of_ble_eq_true rfl) (Nat.le_of_ble_eq_true rfl) (hst := rfl) (fun b98r M99 n100 b98 => ?_)
              obtain ⟨T101, J102, rfl, R105, f106, f107⟩ := b98
              have I103 := I86.call J102 (tm_sub (by decide)) (Or.inl rfl)
              have t108 := J102.up t90
              have := (rv_c I86 J102 (I86.up h_o0) (k := 19) rfl)
              have := (rv_c I86 J102 (I86.up h_o0) (k := 22) rfl)
              have h110 : rv M82 o0 16 + 1 ≤ rv M82 o0 15 := (by have := R88.1 15 _ _ rfl; have := R88.1 16 _ _ rfl; have := R88.1 19 _ _ rfl; have := E91.f yS; omega)
              have E109 : rE M0 M99 o0 1 1 := E91.next f106 f107 (rv_c I86 J102 (I86.up h_o0) (k := 19) rfl) (rE_ha I86 J102 (I86.up h_o0) (by decide)) (e := 1) h110 (by decide)
              have q111 := J102.keep t90 (by decide) q95
              refine mv_aload_n d_TrustDeskModel_compares_77 rfl rfl ?_
              obtain ⟨_, b118, -⟩ := I103.1 _ _ t108
              refine mv_callV (kc' := 0) (ks' := 0) (As := []) (st9 := [.ref o0]) d_TrustDeskModel_compares_78 lV_TrustDeskModel_288 b118 rfl (tc_TrustDeskModel_sum_q4_x (d := d) (x9 := x9) (o0 := o0) t108 R105 E109.1 (by have := R105.1 15 _ _ rfl; have := R105.1 16 _ _ rfl; have := R105.1 19 _ _ rfl; have := E109.f yS; omega) (by have := R105.1 15 _ _ rfl; have := R105.1 16 _ _ rfl; have := R105.1 19 _ _ rfl; have := E109.f yS; omega) I103.start) rfl (Nat.le_of_ble_eq_true rfl) (Nat.le_of_ble_eq_true rfl) (Nat.le_of_ble_eq_true rfl) (hst := rfl) (fun b112r M113 n114 b112 => ?_)
              obtain ⟨T115, J116, rfl, R119, f120, f121⟩ := b112
              have I117 := I103.call J116 (tm_sub (by decide)) (Or.inl rfl)
              have t122 := J116.up t108
              have E123 : rE M0 M113 o0 2 1 := E109.trans f120 (by decide) (yR.2 5 _ _ rfl 44).1 (by decide) (by decide)
              have := f120.w
              refine mv_aload_n d_TrustDeskModel_compares_81 rfl rfl ?_
              refine mv_iload_n d_TrustDeskModel_compares_82 rfl rfl ?_
              obtain ⟨_, b130, -⟩ := I117.1 _ _ t122
              refine mv_callV (kc' := 0) (ks' := 0) (As := [.int 0]) (st9 := [.int 0, .ref o0]) d_TrustDeskModel_compares_83 lV_TrustDeskModel_279 b130 rfl (tc_TrustDeskModel_emits_x (d := (d + 16)) (x9 := x9) (o0 := o0) (x1 := 0) t122 R119 (by have := R119.1 15 _ _ rfl; have := R119.1 16 _ _ rfl; have := R119.1 19 _ _ rfl; have := E123.f yS; omega) (by decide) I117.start) rfl (Nat.le_of_ble_eq_true rfl) (Nat.le_of_ble_eq_true rfl) (Nat.le_of_ble_eq_true rfl) (hst := rfl) (fun b124r M125 n126 b124 => ?_)
              obtain ⟨T127, J128, rfl, R131, f132⟩ := b124
              have I129 := I117.call J128 (tm_sub (by decide)) (Or.inl rfl)
              have t133 := J128.up t122
              have := (rv_c I117 J128 (I117.up h_o0) (k := 16) rfl)
              have := (rv_c I117 J128 (I117.up h_o0) (k := 17) rfl)
              have := (rv_c I117 J128 (I117.up h_o0) (k := 19) rfl)
              have := (rv_c I117 J128 (I117.up h_o0) (k := 22) rfl)
              have E134 : rE M0 M125 o0 3 0 := E123.emit f132 (rE_hv I117 J128 (I117.up h_o0) 15 19 (by decide)) (yR.2 5 _ _ rfl 44).1 (by decide) (Or.inl ⟨by have := R119.1 15 _ _ rfl; have := R119.1 16 _ _ rfl; have := R119.1 19 _ _ rfl; have := E123.f yS; omega, by decide⟩) (by decide)
              exact mv_vret d_TrustDeskModel_compares_86 rfl ⟨_, I129, rfl, R131, E134.vac (by have := R131.1 15 _ _ rfl; have := R131.1 16 _ _ rfl; have := R131.1 19 _ _ rfl; have := E134.f yS; omega) 1 0, (by have := R131.1 15 _ _ rfl; have := R131.1 16 _ _ rfl; have := R131.1 19 _ _ rfl; have := E134.f yS; omega)⟩
          · refine mv_iconst (v := 1) d_TrustDeskModel_isSign_16 (by decide) ?_
            refine mv_goto (tgt := 21) d_TrustDeskModel_isSign_17 (by decide) ?_
            refine mv_iret d_TrustDeskModel_isSign_21 rfl (by decide) ?_
            refine mv_if_eq_f (tgt := 54) d_TrustDeskModel_compares_46 (by decide) (by decide) ?_
            refine mv_bipush (v := (-6)) d_TrustDeskModel_compares_49 (by decide) ?_
            refine mv_goto (tgt := 55) d_TrustDeskModel_compares_51 (by decide) ?_
            refine mv_istore_n (lv' := [(1, .int (-6)), (0, .ref o0)]) d_TrustDeskModel_compares_55 rfl (by decide) rfl ?_
            refine mv_iload_n d_TrustDeskModel_compares_56 rfl rfl ?_
            refine mv_if_ne_t (tgt := 65) d_TrustDeskModel_compares_57 (by decide) (by decide) ?_
            refine mv_aload_n d_TrustDeskModel_compares_65 rfl rfl ?_
            obtain ⟨_, b135, -⟩ := I6.1 _ _ t11
            refine mv_callV (kc1 := 0) (ks1 := 0) (kc' := 0) (ks' := 0) (As := []) (st9 := [.ref o0]) d_TrustDeskModel_compares_66 lV_TrustDeskModel_230 b135 rfl (mj_enter (by decide) (Nat.le_of_ble_eq_true rfl) ?_) rfl (Nat.le_of_ble_eq_true rfl) (Nat.le_of_ble_eq_true rfl) (Nat.le_of_ble_eq_true rfl) (hst := rfl) (fun _ _ _ h => h)
            refine mv_aload_n d_TrustDeskModel_isWell_0 rfl rfl ?_
            refine tr_getK (k := 19) q14 d_TrustDeskModel_isWell_1 f_TrustDeskModel_224_13 ?_
            have := mz_hi v15
            refine mv_if_neZ (tgt := 11) (a := v15.toInt) d_TrustDeskModel_isWell_4 (by decide) rfl (fun b136 => absurd b136 (by omega)) (fun b136 => ?_)
            refine mv_iconst (v := 1) d_TrustDeskModel_isWell_7 (by decide) ?_
            refine mv_goto (tgt := 12) d_TrustDeskModel_isWell_8 (by decide) ?_
            refine mv_iret d_TrustDeskModel_isWell_12 rfl (by decide) ?_
            refine mv_if_ne_t (tgt := 73) d_TrustDeskModel_compares_69 (by decide) (by decide) ?_
            refine mv_aload_n d_TrustDeskModel_compares_73 rfl rfl ?_
            obtain ⟨_, b143, -⟩ := I6.1 _ _ t11
            refine mv_callV (kc' := 0) (ks' := 0) (As := []) (st9 := [.ref o0]) d_TrustDeskModel_compares_74 lV_TrustDeskModel_237 b143 rfl (tc_TrustDeskModel_next_x (d := (d + 16)) (x9 := x9) (o0 := o0) t11 R8 I6.start) rfl (Nat.le_of_ble_eq_true rfl) (Nat.le_of_ble_eq_true rfl) (Nat.le_of_ble_eq_true rfl) (hst := rfl) (fun b137r M138 n139 b137 => ?_)
            obtain ⟨T140, J141, rfl, R144, f145, f146⟩ := b137
            have I142 := I6.call J141 (tm_sub (by decide)) (Or.inl rfl)
            have t147 := J141.up t11
            have := (rv_c I6 J141 (I6.up h_o0) (k := 19) rfl)
            have := (rv_c I6 J141 (I6.up h_o0) (k := 22) rfl)
            have h149 : rv M2 o0 16 + 1 ≤ rv M2 o0 15 := (by have := R8.1 15 _ _ rfl; have := R8.1 16 _ _ rfl; have := R8.1 19 _ _ rfl; have := E12.f yS; omega)
            have E148 : rE M0 M138 o0 1 1 := E12.next f145 f146 (rv_c I6 J141 (I6.up h_o0) (k := 19) rfl) (rE_ha I6 J141 (I6.up h_o0) (by decide)) (e := 1) h149 (by decide)
            have q150 := J141.keep t11 (by decide) q14
            refine mv_aload_n d_TrustDeskModel_compares_77 rfl rfl ?_
            obtain ⟨_, b157, -⟩ := I142.1 _ _ t147
            refine mv_callV (kc' := 0) (ks' := 0) (As := []) (st9 := [.ref o0]) d_TrustDeskModel_compares_78 lV_TrustDeskModel_288 b157 rfl (tc_TrustDeskModel_sum_q4_x (d := d) (x9 := x9) (o0 := o0) t147 R144 E148.1 (by have := R144.1 15 _ _ rfl; have := R144.1 16 _ _ rfl; have := R144.1 19 _ _ rfl; have := E148.f yS; omega) (by have := R144.1 15 _ _ rfl; have := R144.1 16 _ _ rfl; have := R144.1 19 _ _ rfl; have := E148.f yS; omega) I142.start) rfl (Nat.le_of_ble_eq_true rfl) (Nat.le_of_ble_eq_true rfl) (Nat.le_of_ble_eq_true rfl) (hst := rfl) (fun b151r M152 n153 b151 => ?_)
            obtain ⟨T154, J155, rfl, R158, f159, f160⟩ := b151
            have I156 := I142.call J155 (tm_sub (by decide)) (Or.inl rfl)
            have t161 := J155.up t147
            have E162 : rE M0 M152 o0 2 1 := E148.trans f159 (by decide) (yR.2 5 _ _ rfl 44).1 (by decide) (by decide)
            have := f159.w
            refine mv_aload_n d_TrustDeskModel_compares_81 rfl rfl ?_
            refine mv_iload_n d_TrustDeskModel_compares_82 rfl rfl ?_
            obtain ⟨_, b169, -⟩ := I156.1 _ _ t161
            refine mv_callV (kc' := 0) (ks' := 0) (As := [.int (-6)]) (st9 := [.int (-6), .ref o0]) d_TrustDeskModel_compares_83 lV_TrustDeskModel_279 b169 rfl (tc_TrustDeskModel_emits_x (d := (d + 16)) (x9 := x9) (o0 := o0) (x1 := (-6)) t161 R158 (by have := R158.1 15 _ _ rfl; have := R158.1 16 _ _ rfl; have := R158.1 19 _ _ rfl; have := E162.f yS; omega) (by decide) I156.start) rfl (Nat.le_of_ble_eq_true rfl) (Nat.le_of_ble_eq_true rfl) (Nat.le_of_ble_eq_true rfl) (hst := rfl) (fun b163r M164 n165 b163 => ?_)
            obtain ⟨T166, J167, rfl, R170, f171⟩ := b163
            have I168 := I156.call J167 (tm_sub (by decide)) (Or.inl rfl)
            have t172 := J167.up t161
            have := (rv_c I156 J167 (I156.up h_o0) (k := 16) rfl)
            have := (rv_c I156 J167 (I156.up h_o0) (k := 17) rfl)
            have := (rv_c I156 J167 (I156.up h_o0) (k := 19) rfl)
            have := (rv_c I156 J167 (I156.up h_o0) (k := 22) rfl)
            have E173 : rE M0 M164 o0 1 0 := E162.emit f171 (rE_hv I156 J167 (I156.up h_o0) 15 19 (by decide)) (yR.2 5 _ _ rfl 44).1 (by decide) (Or.inr (Or.inr ⟨by decide, by decide, by decide, by decide⟩)) (by decide)
            exact mv_vret d_TrustDeskModel_compares_86 rfl ⟨_, I168, rfl, R170, E173, (by have := R170.1 15 _ _ rfl; have := R170.1 16 _ _ rfl; have := R170.1 19 _ _ rfl; have := E173.f yS; omega)⟩
      · refine mv_aload_n d_TrustDeskModel_isSign_8 rfl rfl ?_
        obtain ⟨v175, q174⟩ := tm_atI I6 t11 (k := 18) rfl
        refine tr_getK q174 d_TrustDeskModel_isSign_9 f_TrustDeskModel_201_13 ?_
        have := R8.f (k := 18) q174 rfl
        have := tm_rv q174
        refine mv_iload_n d_TrustDeskModel_isSign_12 rfl rfl ?_
        have := mz_hi v175
        refine mv_icmp_neZ (tgt := 20) (a := v175.toInt) (b := 62) d_TrustDeskModel_isSign_13 (by decide) rfl (by decide) (fun b176 => ?_) (fun b176 => ?_)
        · refine mv_iconst (v := 0) d_TrustDeskModel_isSign_20 (by decide) ?_
          refine mv_iret d_TrustDeskModel_isSign_21 rfl (by decide) ?_
          refine mv_if_eq_t (tgt := 40) d_TrustDeskModel_compares_32 (by decide) (by decide) ?_
          refine mv_aload_n d_TrustDeskModel_compares_40 rfl rfl ?_
          refine mv_bipush (v := 61) d_TrustDeskModel_compares_41 (by decide) ?_
          obtain ⟨_, b177, -⟩ := I6.1 _ _ t11
          refine mv_callV (kc1 := 0) (ks1 := 0) (kc' := 0) (ks' := 0) (As := [.int 61]) (st9 := [.int 61, .ref o0]) d_TrustDeskModel_compares_43 lV_TrustDeskModel_234 b177 rfl (mj_enter (by decide) (Nat.le_of_ble_eq_true rfl) ?_) rfl (Nat.le_of_ble_eq_true rfl) (Nat.le_of_ble_eq_true rfl) (Nat.le_of_ble_eq_true rfl) (hst := rfl) (fun _ _ _ h => h)
          refine mv_aload_n d_TrustDeskModel_isSign_0 rfl rfl ?_
          refine tr_getK (k := 17) q18 d_TrustDeskModel_isSign_1 f_TrustDeskModel_198_13 ?_
          refine mv_iconst (v := 4) d_TrustDeskModel_isSign_4 (by decide) ?_
          have := mz_hi v19
          refine mv_icmp_neZ (tgt := 20) (a := v19.toInt) (b := 4) d_TrustDeskModel_isSign_5 (by decide) rfl (by decide) (fun b178 => absurd b178 (by omega)) (fun b178 => ?_)
          refine mv_aload_n d_TrustDeskModel_isSign_8 rfl rfl ?_
          refine tr_getK (k := 18) q174 d_TrustDeskModel_isSign_9 f_TrustDeskModel_201_13 ?_
          refine mv_iload_n d_TrustDeskModel_isSign_12 rfl rfl ?_
          have := mz_hi v175
          refine mv_icmp_neZ (tgt := 20) (a := v175.toInt) (b := 61) d_TrustDeskModel_isSign_13 (by decide) rfl (by decide) (fun b179 => ?_) (fun b179 => ?_)
          · refine mv_iconst (v := 0) d_TrustDeskModel_isSign_20 (by decide) ?_
            refine mv_iret d_TrustDeskModel_isSign_21 rfl (by decide) ?_
            refine mv_if_eq_t (tgt := 54) d_TrustDeskModel_compares_46 (by decide) (by decide) ?_
            refine mv_iconst (v := 0) d_TrustDeskModel_compares_54 (by decide) ?_
            refine mv_istore_n (lv' := [(1, .int 0), (0, .ref o0)]) d_TrustDeskModel_compares_55 rfl (by decide) rfl ?_
            refine mv_iload_n d_TrustDeskModel_compares_56 rfl rfl ?_
            refine mv_if_ne_f (tgt := 65) d_TrustDeskModel_compares_57 (by decide) (by decide) ?_
            refine mv_aload_n d_TrustDeskModel_compares_60 rfl rfl ?_
            refine mv_iconst (v := 1) d_TrustDeskModel_compares_61 (by decide) ?_
            obtain ⟨_, b186, -⟩ := I6.1 _ _ t11
            refine mv_callV (kc' := 0) (ks' := 0) (As := [.int 1]) (st9 := [.int 1, .ref o0]) d_TrustDeskModel_compares_62 lV_TrustDeskModel_240 b186 rfl (tc_TrustDeskModel_fails_x (d := (d + 17)) (x9 := x9) (o0 := o0) (x1 := 1) t11 R8 (by decide) I6.start) rfl (Nat.le_of_ble_eq_true rfl) (Nat.le_of_ble_eq_true rfl) (Nat.le_of_ble_eq_true rfl) (hst := rfl) (fun b180r M181 n182 b180 => ?_)
            obtain ⟨T183, J184, rfl, R187, f188⟩ := b180
            have I185 := I6.call J184 (tm_sub (by decide)) (Or.inl rfl)
            have t189 := J184.up t11
            have := (rv_c I6 J184 (I6.up h_o0) (k := 16) rfl)
            have := (rv_c I6 J184 (I6.up h_o0) (k := 17) rfl)
            have := (rv_c I6 J184 (I6.up h_o0) (k := 22) rfl)
            have E190 : rE M0 M181 o0 1 0 := E12.fails (rE_hv I6 J184 (I6.up h_o0) 15 18 (by decide)) (rE_ha I6 J184 (I6.up h_o0) (by decide)) f188 1 0
            have q191 := J184.keep t11 (by decide) q18
            have q192 := J184.keep t11 (by decide) q174
            refine mv_aload_n d_TrustDeskModel_compares_65 rfl rfl ?_
            obtain ⟨_, b193, -⟩ := I185.1 _ _ t189
            refine mv_callV (kc1 := 0) (ks1 := 0) (kc' := 0) (ks' := 0) (As := []) (st9 := [.ref o0]) d_TrustDeskModel_compares_66 lV_TrustDeskModel_230 b193 rfl (mj_enter (by decide) (Nat.le_of_ble_eq_true rfl) ?_) rfl (Nat.le_of_ble_eq_true rfl) (Nat.le_of_ble_eq_true rfl) (Nat.le_of_ble_eq_true rfl) (hst := rfl) (fun _ _ _ h => h)
            refine mv_aload_n d_TrustDeskModel_isWell_0 rfl rfl ?_
            obtain ⟨v195, q194⟩ := tm_atI I185 t189 (k := 19) rfl
            refine tr_getK q194 d_TrustDeskModel_isWell_1 f_TrustDeskModel_224_13 ?_
            have := R187.f (k := 19) q194 rfl
            have := tm_rv q194
            have := mz_hi v195
            refine mv_if_neZ (tgt := 11) (a := v195.toInt) d_TrustDeskModel_isWell_4 (by decide) rfl (fun b196 => ?_) (fun b196 => ?_)
            · refine mv_iconst (v := 0) d_TrustDeskModel_isWell_11 (by decide) ?_
              refine mv_iret d_TrustDeskModel_isWell_12 rfl (by decide) ?_
              refine mv_if_ne_f (tgt := 73) d_TrustDeskModel_compares_69 (by decide) (by decide) ?_
              exact mv_vret d_TrustDeskModel_compares_72 rfl ⟨_, I185, rfl, R187, E190, (by have := R187.1 15 _ _ rfl; have := R187.1 16 _ _ rfl; have := R187.1 19 _ _ rfl; have := E190.f yS; omega)⟩
            · refine mv_iconst (v := 1) d_TrustDeskModel_isWell_7 (by decide) ?_
              refine mv_goto (tgt := 12) d_TrustDeskModel_isWell_8 (by decide) ?_
              refine mv_iret d_TrustDeskModel_isWell_12 rfl (by decide) ?_
              refine mv_if_ne_t (tgt := 73) d_TrustDeskModel_compares_69 (by decide) (by decide) ?_
              refine mv_aload_n d_TrustDeskModel_compares_73 rfl rfl ?_
              obtain ⟨_, b203, -⟩ := I185.1 _ _ t189
              refine mv_callV (kc' := 0) (ks' := 0) (As := []) (st9 := [.ref o0]) d_TrustDeskModel_compares_74 lV_TrustDeskModel_237 b203 rfl (tc_TrustDeskModel_next_x (d := (d + 16)) (x9 := x9) (o0 := o0) t189 R187 I185.start) rfl (Nat.le_of_ble_eq_true rfl) (Nat.le_of_ble_eq_true rfl) (Nat.le_of_ble_eq_true rfl) (hst := rfl) (fun b197r M198 n199 b197 => ?_)
              obtain ⟨T200, J201, rfl, R204, f205, f206⟩ := b197
              have I202 := I185.call J201 (tm_sub (by decide)) (Or.inl rfl)
              have t207 := J201.up t189
              have := (rv_c I185 J201 (I185.up h_o0) (k := 19) rfl)
              have := (rv_c I185 J201 (I185.up h_o0) (k := 22) rfl)
              have h209 : rv M181 o0 16 + 1 ≤ rv M181 o0 15 := (by have := R187.1 15 _ _ rfl; have := R187.1 16 _ _ rfl; have := R187.1 19 _ _ rfl; have := E190.f yS; omega)
              have E208 : rE M0 M198 o0 1 1 := E190.next f205 f206 (rv_c I185 J201 (I185.up h_o0) (k := 19) rfl) (rE_ha I185 J201 (I185.up h_o0) (by decide)) (e := 1) h209 (by decide)
              have q210 := J201.keep t189 (by decide) q194
              refine mv_aload_n d_TrustDeskModel_compares_77 rfl rfl ?_
              obtain ⟨_, b217, -⟩ := I202.1 _ _ t207
              refine mv_callV (kc' := 0) (ks' := 0) (As := []) (st9 := [.ref o0]) d_TrustDeskModel_compares_78 lV_TrustDeskModel_288 b217 rfl (tc_TrustDeskModel_sum_q4_x (d := d) (x9 := x9) (o0 := o0) t207 R204 E208.1 (by have := R204.1 15 _ _ rfl; have := R204.1 16 _ _ rfl; have := R204.1 19 _ _ rfl; have := E208.f yS; omega) (by have := R204.1 15 _ _ rfl; have := R204.1 16 _ _ rfl; have := R204.1 19 _ _ rfl; have := E208.f yS; omega) I202.start) rfl (Nat.le_of_ble_eq_true rfl) (Nat.le_of_ble_eq_true rfl) (Nat.le_of_ble_eq_true rfl) (hst := rfl) (fun b211r M212 n213 b211 => ?_)
              obtain ⟨T214, J215, rfl, R218, f219, f220⟩ := b211
              have I216 := I202.call J215 (tm_sub (by decide)) (Or.inl rfl)
              have t221 := J215.up t207
              have E222 : rE M0 M212 o0 2 1 := E208.trans f219 (by decide) (yR.2 5 _ _ rfl 44).1 (by decide) (by decide)
              have := f219.w
              refine mv_aload_n d_TrustDeskModel_compares_81 rfl rfl ?_
              refine mv_iload_n d_TrustDeskModel_compares_82 rfl rfl ?_
              obtain ⟨_, b229, -⟩ := I216.1 _ _ t221
              refine mv_callV (kc' := 0) (ks' := 0) (As := [.int 0]) (st9 := [.int 0, .ref o0]) d_TrustDeskModel_compares_83 lV_TrustDeskModel_279 b229 rfl (tc_TrustDeskModel_emits_x (d := (d + 16)) (x9 := x9) (o0 := o0) (x1 := 0) t221 R218 (by have := R218.1 15 _ _ rfl; have := R218.1 16 _ _ rfl; have := R218.1 19 _ _ rfl; have := E222.f yS; omega) (by decide) I216.start) rfl (Nat.le_of_ble_eq_true rfl) (Nat.le_of_ble_eq_true rfl) (Nat.le_of_ble_eq_true rfl) (hst := rfl) (fun b223r M224 n225 b223 => ?_)
              obtain ⟨T226, J227, rfl, R230, f231⟩ := b223
              have I228 := I216.call J227 (tm_sub (by decide)) (Or.inl rfl)
              have t232 := J227.up t221
              have := (rv_c I216 J227 (I216.up h_o0) (k := 16) rfl)
              have := (rv_c I216 J227 (I216.up h_o0) (k := 17) rfl)
              have := (rv_c I216 J227 (I216.up h_o0) (k := 19) rfl)
              have := (rv_c I216 J227 (I216.up h_o0) (k := 22) rfl)
              have E233 : rE M0 M224 o0 3 0 := E222.emit f231 (rE_hv I216 J227 (I216.up h_o0) 15 19 (by decide)) (yR.2 5 _ _ rfl 44).1 (by decide) (Or.inl ⟨by have := R218.1 15 _ _ rfl; have := R218.1 16 _ _ rfl; have := R218.1 19 _ _ rfl; have := E222.f yS; omega, by decide⟩) (by decide)
              exact mv_vret d_TrustDeskModel_compares_86 rfl ⟨_, I228, rfl, R230, E233.vac (by have := R230.1 15 _ _ rfl; have := R230.1 16 _ _ rfl; have := R230.1 19 _ _ rfl; have := E233.f yS; omega) 1 0, (by have := R230.1 15 _ _ rfl; have := R230.1 16 _ _ rfl; have := R230.1 19 _ _ rfl; have := E233.f yS; omega)⟩
          · refine mv_iconst (v := 1) d_TrustDeskModel_isSign_16 (by decide) ?_
            refine mv_goto (tgt := 21) d_TrustDeskModel_isSign_17 (by decide) ?_
            refine mv_iret d_TrustDeskModel_isSign_21 rfl (by decide) ?_
            refine mv_if_eq_f (tgt := 54) d_TrustDeskModel_compares_46 (by decide) (by decide) ?_
            refine mv_bipush (v := (-6)) d_TrustDeskModel_compares_49 (by decide) ?_
            refine mv_goto (tgt := 55) d_TrustDeskModel_compares_51 (by decide) ?_
            refine mv_istore_n (lv' := [(1, .int (-6)), (0, .ref o0)]) d_TrustDeskModel_compares_55 rfl (by decide) rfl ?_
            refine mv_iload_n d_TrustDeskModel_compares_56 rfl rfl ?_
            refine mv_if_ne_t (tgt := 65) d_TrustDeskModel_compares_57 (by decide) (by decide) ?_
            refine mv_aload_n d_TrustDeskModel_compares_65 rfl rfl ?_
            obtain ⟨_, b234, -⟩ := I6.1 _ _ t11
            refine mv_callV (kc1 := 0) (ks1 := 0) (kc' := 0) (ks' := 0) (As := []) (st9 := [.ref o0]) d_TrustDeskModel_compares_66 lV_TrustDeskModel_230 b234 rfl (mj_enter (by decide) (Nat.le_of_ble_eq_true rfl) ?_) rfl (Nat.le_of_ble_eq_true rfl) (Nat.le_of_ble_eq_true rfl) (Nat.le_of_ble_eq_true rfl) (hst := rfl) (fun _ _ _ h => h)
            refine mv_aload_n d_TrustDeskModel_isWell_0 rfl rfl ?_
            refine tr_getK (k := 19) q14 d_TrustDeskModel_isWell_1 f_TrustDeskModel_224_13 ?_
            have := mz_hi v15
            refine mv_if_neZ (tgt := 11) (a := v15.toInt) d_TrustDeskModel_isWell_4 (by decide) rfl (fun b235 => absurd b235 (by omega)) (fun b235 => ?_)
            refine mv_iconst (v := 1) d_TrustDeskModel_isWell_7 (by decide) ?_
            refine mv_goto (tgt := 12) d_TrustDeskModel_isWell_8 (by decide) ?_
            refine mv_iret d_TrustDeskModel_isWell_12 rfl (by decide) ?_
            refine mv_if_ne_t (tgt := 73) d_TrustDeskModel_compares_69 (by decide) (by decide) ?_
            refine mv_aload_n d_TrustDeskModel_compares_73 rfl rfl ?_
            obtain ⟨_, b242, -⟩ := I6.1 _ _ t11
            refine mv_callV (kc' := 0) (ks' := 0) (As := []) (st9 := [.ref o0]) d_TrustDeskModel_compares_74 lV_TrustDeskModel_237 b242 rfl (tc_TrustDeskModel_next_x (d := (d + 16)) (x9 := x9) (o0 := o0) t11 R8 I6.start) rfl (Nat.le_of_ble_eq_true rfl) (Nat.le_of_ble_eq_true rfl) (Nat.le_of_ble_eq_true rfl) (hst := rfl) (fun b236r M237 n238 b236 => ?_)
            obtain ⟨T239, J240, rfl, R243, f244, f245⟩ := b236
            have I241 := I6.call J240 (tm_sub (by decide)) (Or.inl rfl)
            have t246 := J240.up t11
            have := (rv_c I6 J240 (I6.up h_o0) (k := 19) rfl)
            have := (rv_c I6 J240 (I6.up h_o0) (k := 22) rfl)
            have h248 : rv M2 o0 16 + 1 ≤ rv M2 o0 15 := (by have := R8.1 15 _ _ rfl; have := R8.1 16 _ _ rfl; have := R8.1 19 _ _ rfl; have := E12.f yS; omega)
            have E247 : rE M0 M237 o0 1 1 := E12.next f244 f245 (rv_c I6 J240 (I6.up h_o0) (k := 19) rfl) (rE_ha I6 J240 (I6.up h_o0) (by decide)) (e := 1) h248 (by decide)
            have q249 := J240.keep t11 (by decide) q14
            refine mv_aload_n d_TrustDeskModel_compares_77 rfl rfl ?_
            obtain ⟨_, b256, -⟩ := I241.1 _ _ t246
            refine mv_callV (kc' := 0) (ks' := 0) (As := []) (st9 := [.ref o0]) d_TrustDeskModel_compares_78 lV_TrustDeskModel_288 b256 rfl (tc_TrustDeskModel_sum_q4_x (d := d) (x9 := x9) (o0 := o0) t246 R243 E247.1 (by have := R243.1 15 _ _ rfl; have := R243.1 16 _ _ rfl; have := R243.1 19 _ _ rfl; have := E247.f yS; omega) (by have := R243.1 15 _ _ rfl; have := R243.1 16 _ _ rfl; have := R243.1 19 _ _ rfl; have := E247.f yS; omega) I241.start) rfl (Nat.le_of_ble_eq_true rfl) (Nat.le_of_ble_eq_true rfl) (Nat.le_of_ble_eq_true rfl) (hst := rfl) (fun b250r M251 n252 b250 => ?_)
            obtain ⟨T253, J254, rfl, R257, f258, f259⟩ := b250
            have I255 := I241.call J254 (tm_sub (by decide)) (Or.inl rfl)
            have t260 := J254.up t246
            have E261 : rE M0 M251 o0 2 1 := E247.trans f258 (by decide) (yR.2 5 _ _ rfl 44).1 (by decide) (by decide)
            have := f258.w
            refine mv_aload_n d_TrustDeskModel_compares_81 rfl rfl ?_
            refine mv_iload_n d_TrustDeskModel_compares_82 rfl rfl ?_
            obtain ⟨_, b268, -⟩ := I255.1 _ _ t260
            refine mv_callV (kc' := 0) (ks' := 0) (As := [.int (-6)]) (st9 := [.int (-6), .ref o0]) d_TrustDeskModel_compares_83 lV_TrustDeskModel_279 b268 rfl (tc_TrustDeskModel_emits_x (d := (d + 16)) (x9 := x9) (o0 := o0) (x1 := (-6)) t260 R257 (by have := R257.1 15 _ _ rfl; have := R257.1 16 _ _ rfl; have := R257.1 19 _ _ rfl; have := E261.f yS; omega) (by decide) I255.start) rfl (Nat.le_of_ble_eq_true rfl) (Nat.le_of_ble_eq_true rfl) (Nat.le_of_ble_eq_true rfl) (hst := rfl) (fun b262r M263 n264 b262 => ?_)
            obtain ⟨T265, J266, rfl, R269, f270⟩ := b262
            have I267 := I255.call J266 (tm_sub (by decide)) (Or.inl rfl)
            have t271 := J266.up t260
            have := (rv_c I255 J266 (I255.up h_o0) (k := 16) rfl)
            have := (rv_c I255 J266 (I255.up h_o0) (k := 17) rfl)
            have := (rv_c I255 J266 (I255.up h_o0) (k := 19) rfl)
            have := (rv_c I255 J266 (I255.up h_o0) (k := 22) rfl)
            have E272 : rE M0 M263 o0 1 0 := E261.emit f270 (rE_hv I255 J266 (I255.up h_o0) 15 19 (by decide)) (yR.2 5 _ _ rfl 44).1 (by decide) (Or.inr (Or.inr ⟨by decide, by decide, by decide, by decide⟩)) (by decide)
            exact mv_vret d_TrustDeskModel_compares_86 rfl ⟨_, I267, rfl, R269, E272, (by have := R269.1 15 _ _ rfl; have := R269.1 16 _ _ rfl; have := R269.1 19 _ _ rfl; have := E272.f yS; omega)⟩
        · refine mv_iconst (v := 1) d_TrustDeskModel_isSign_16 (by decide) ?_
          refine mv_goto (tgt := 21) d_TrustDeskModel_isSign_17 (by decide) ?_
          refine mv_iret d_TrustDeskModel_isSign_21 rfl (by decide) ?_
          refine mv_if_eq_f (tgt := 40) d_TrustDeskModel_compares_32 (by decide) (by decide) ?_
          refine mv_bipush (v := (-5)) d_TrustDeskModel_compares_35 (by decide) ?_
          refine mv_goto (tgt := 55) d_TrustDeskModel_compares_37 (by decide) ?_
          refine mv_istore_n (lv' := [(1, .int (-5)), (0, .ref o0)]) d_TrustDeskModel_compares_55 rfl (by decide) rfl ?_
          refine mv_iload_n d_TrustDeskModel_compares_56 rfl rfl ?_
          refine mv_if_ne_t (tgt := 65) d_TrustDeskModel_compares_57 (by decide) (by decide) ?_
          refine mv_aload_n d_TrustDeskModel_compares_65 rfl rfl ?_
          obtain ⟨_, b273, -⟩ := I6.1 _ _ t11
          refine mv_callV (kc1 := 0) (ks1 := 0) (kc' := 0) (ks' := 0) (As := []) (st9 := [.ref o0]) d_TrustDeskModel_compares_66 lV_TrustDeskModel_230 b273 rfl (mj_enter (by decide) (Nat.le_of_ble_eq_true rfl) ?_) rfl (Nat.le_of_ble_eq_true rfl) (Nat.le_of_ble_eq_true rfl) (Nat.le_of_ble_eq_true rfl) (hst := rfl) (fun _ _ _ h => h)
          refine mv_aload_n d_TrustDeskModel_isWell_0 rfl rfl ?_
          refine tr_getK (k := 19) q14 d_TrustDeskModel_isWell_1 f_TrustDeskModel_224_13 ?_
          have := mz_hi v15
          refine mv_if_neZ (tgt := 11) (a := v15.toInt) d_TrustDeskModel_isWell_4 (by decide) rfl (fun b274 => absurd b274 (by omega)) (fun b274 => ?_)
          refine mv_iconst (v := 1) d_TrustDeskModel_isWell_7 (by decide) ?_
          refine mv_goto (tgt := 12) d_TrustDeskModel_isWell_8 (by decide) ?_
          refine mv_iret d_TrustDeskModel_isWell_12 rfl (by decide) ?_
          refine mv_if_ne_t (tgt := 73) d_TrustDeskModel_compares_69 (by decide) (by decide) ?_
          refine mv_aload_n d_TrustDeskModel_compares_73 rfl rfl ?_
          obtain ⟨_, b281, -⟩ := I6.1 _ _ t11
          refine mv_callV (kc' := 0) (ks' := 0) (As := []) (st9 := [.ref o0]) d_TrustDeskModel_compares_74 lV_TrustDeskModel_237 b281 rfl (tc_TrustDeskModel_next_x (d := (d + 16)) (x9 := x9) (o0 := o0) t11 R8 I6.start) rfl (Nat.le_of_ble_eq_true rfl) (Nat.le_of_ble_eq_true rfl) (Nat.le_of_ble_eq_true rfl) (hst := rfl) (fun b275r M276 n277 b275 => ?_)
          obtain ⟨T278, J279, rfl, R282, f283, f284⟩ := b275
          have I280 := I6.call J279 (tm_sub (by decide)) (Or.inl rfl)
          have t285 := J279.up t11
          have := (rv_c I6 J279 (I6.up h_o0) (k := 19) rfl)
          have := (rv_c I6 J279 (I6.up h_o0) (k := 22) rfl)
          have h287 : rv M2 o0 16 + 1 ≤ rv M2 o0 15 := (by have := R8.1 15 _ _ rfl; have := R8.1 16 _ _ rfl; have := R8.1 19 _ _ rfl; have := E12.f yS; omega)
          have E286 : rE M0 M276 o0 1 1 := E12.next f283 f284 (rv_c I6 J279 (I6.up h_o0) (k := 19) rfl) (rE_ha I6 J279 (I6.up h_o0) (by decide)) (e := 1) h287 (by decide)
          have q288 := J279.keep t11 (by decide) q14
          refine mv_aload_n d_TrustDeskModel_compares_77 rfl rfl ?_
          obtain ⟨_, b295, -⟩ := I280.1 _ _ t285
          refine mv_callV (kc' := 0) (ks' := 0) (As := []) (st9 := [.ref o0]) d_TrustDeskModel_compares_78 lV_TrustDeskModel_288 b295 rfl (tc_TrustDeskModel_sum_q4_x (d := d) (x9 := x9) (o0 := o0) t285 R282 E286.1 (by have := R282.1 15 _ _ rfl; have := R282.1 16 _ _ rfl; have := R282.1 19 _ _ rfl; have := E286.f yS; omega) (by have := R282.1 15 _ _ rfl; have := R282.1 16 _ _ rfl; have := R282.1 19 _ _ rfl; have := E286.f yS; omega) I280.start) rfl (Nat.le_of_ble_eq_true rfl) (Nat.le_of_ble_eq_true rfl) (Nat.le_of_ble_eq_true rfl) (hst := rfl) (fun b289r M290 n291 b289 => ?_)
          obtain ⟨T292, J293, rfl, R296, f297, f298⟩ := b289
          have I294 := I280.call J293 (tm_sub (by decide)) (Or.inl rfl)
          have t299 := J293.up t285
          have E300 : rE M0 M290 o0 2 1 := E286.trans f297 (by decide) (yR.2 5 _ _ rfl 44).1 (by decide) (by decide)
          have := f297.w
          refine mv_aload_n d_TrustDeskModel_compares_81 rfl rfl ?_
          refine mv_iload_n d_TrustDeskModel_compares_82 rfl rfl ?_
          obtain ⟨_, b307, -⟩ := I294.1 _ _ t299
          refine mv_callV (kc' := 0) (ks' := 0) (As := [.int (-5)]) (st9 := [.int (-5), .ref o0]) d_TrustDeskModel_compares_83 lV_TrustDeskModel_279 b307 rfl (tc_TrustDeskModel_emits_x (d := (d + 16)) (x9 := x9) (o0 := o0) (x1 := (-5)) t299 R296 (by have := R296.1 15 _ _ rfl; have := R296.1 16 _ _ rfl; have := R296.1 19 _ _ rfl; have := E300.f yS; omega) (by decide) I294.start) rfl (Nat.le_of_ble_eq_true rfl) (Nat.le_of_ble_eq_true rfl) (Nat.le_of_ble_eq_true rfl) (hst := rfl) (fun b301r M302 n303 b301 => ?_)
          obtain ⟨T304, J305, rfl, R308, f309⟩ := b301
          have I306 := I294.call J305 (tm_sub (by decide)) (Or.inl rfl)
          have t310 := J305.up t299
          have := (rv_c I294 J305 (I294.up h_o0) (k := 16) rfl)
          have := (rv_c I294 J305 (I294.up h_o0) (k := 17) rfl)
          have := (rv_c I294 J305 (I294.up h_o0) (k := 19) rfl)
          have := (rv_c I294 J305 (I294.up h_o0) (k := 22) rfl)
          have E311 : rE M0 M302 o0 1 0 := E300.emit f309 (rE_hv I294 J305 (I294.up h_o0) 15 19 (by decide)) (yR.2 5 _ _ rfl 44).1 (by decide) (Or.inr (Or.inr ⟨by decide, by decide, by decide, by decide⟩)) (by decide)
          exact mv_vret d_TrustDeskModel_compares_86 rfl ⟨_, I306, rfl, R308, E311, (by have := R308.1 15 _ _ rfl; have := R308.1 16 _ _ rfl; have := R308.1 19 _ _ rfl; have := E311.f yS; omega)⟩
    · refine mv_aload_n d_TrustDeskModel_isSign_8 rfl rfl ?_
      obtain ⟨v313, q312⟩ := tm_atI I6 t11 (k := 18) rfl
      refine tr_getK q312 d_TrustDeskModel_isSign_9 f_TrustDeskModel_201_13 ?_
      have := R8.f (k := 18) q312 rfl
      have := tm_rv q312
      refine mv_iload_n d_TrustDeskModel_isSign_12 rfl rfl ?_
      have := mz_hi v313
      refine mv_icmp_neZ (tgt := 20) (a := v313.toInt) (b := 60) d_TrustDeskModel_isSign_13 (by decide) rfl (by decide) (fun b314 => ?_) (fun b314 => ?_)
      · refine mv_iconst (v := 0) d_TrustDeskModel_isSign_20 (by decide) ?_
        refine mv_iret d_TrustDeskModel_isSign_21 rfl (by decide) ?_
        refine mv_if_eq_t (tgt := 26) d_TrustDeskModel_compares_18 (by decide) (by decide) ?_
        refine mv_aload_n d_TrustDeskModel_compares_26 rfl rfl ?_
        refine mv_bipush (v := 62) d_TrustDeskModel_compares_27 (by decide) ?_
        obtain ⟨_, b315, -⟩ := I6.1 _ _ t11
        refine mv_callV (kc1 := 0) (ks1 := 0) (kc' := 0) (ks' := 0) (As := [.int 62]) (st9 := [.int 62, .ref o0]) d_TrustDeskModel_compares_29 lV_TrustDeskModel_234 b315 rfl (mj_enter (by decide) (Nat.le_of_ble_eq_true rfl) ?_) rfl (Nat.le_of_ble_eq_true rfl) (Nat.le_of_ble_eq_true rfl) (Nat.le_of_ble_eq_true rfl) (hst := rfl) (fun _ _ _ h => h)
        refine mv_aload_n d_TrustDeskModel_isSign_0 rfl rfl ?_
        refine tr_getK (k := 17) q18 d_TrustDeskModel_isSign_1 f_TrustDeskModel_198_13 ?_
        refine mv_iconst (v := 4) d_TrustDeskModel_isSign_4 (by decide) ?_
        have := mz_hi v19
        refine mv_icmp_neZ (tgt := 20) (a := v19.toInt) (b := 4) d_TrustDeskModel_isSign_5 (by decide) rfl (by decide) (fun b316 => absurd b316 (by omega)) (fun b316 => ?_)
        refine mv_aload_n d_TrustDeskModel_isSign_8 rfl rfl ?_
        refine tr_getK (k := 18) q312 d_TrustDeskModel_isSign_9 f_TrustDeskModel_201_13 ?_
        refine mv_iload_n d_TrustDeskModel_isSign_12 rfl rfl ?_
        have := mz_hi v313
        refine mv_icmp_neZ (tgt := 20) (a := v313.toInt) (b := 62) d_TrustDeskModel_isSign_13 (by decide) rfl (by decide) (fun b317 => ?_) (fun b317 => ?_)
        · refine mv_iconst (v := 0) d_TrustDeskModel_isSign_20 (by decide) ?_
          refine mv_iret d_TrustDeskModel_isSign_21 rfl (by decide) ?_
          refine mv_if_eq_t (tgt := 40) d_TrustDeskModel_compares_32 (by decide) (by decide) ?_
          refine mv_aload_n d_TrustDeskModel_compares_40 rfl rfl ?_
          refine mv_bipush (v := 61) d_TrustDeskModel_compares_41 (by decide) ?_
          obtain ⟨_, b318, -⟩ := I6.1 _ _ t11
          refine mv_callV (kc1 := 0) (ks1 := 0) (kc' := 0) (ks' := 0) (As := [.int 61]) (st9 := [.int 61, .ref o0]) d_TrustDeskModel_compares_43 lV_TrustDeskModel_234 b318 rfl (mj_enter (by decide) (Nat.le_of_ble_eq_true rfl) ?_) rfl (Nat.le_of_ble_eq_true rfl) (Nat.le_of_ble_eq_true rfl) (Nat.le_of_ble_eq_true rfl) (hst := rfl) (fun _ _ _ h => h)
          refine mv_aload_n d_TrustDeskModel_isSign_0 rfl rfl ?_
          refine tr_getK (k := 17) q18 d_TrustDeskModel_isSign_1 f_TrustDeskModel_198_13 ?_
          refine mv_iconst (v := 4) d_TrustDeskModel_isSign_4 (by decide) ?_
          have := mz_hi v19
          refine mv_icmp_neZ (tgt := 20) (a := v19.toInt) (b := 4) d_TrustDeskModel_isSign_5 (by decide) rfl (by decide) (fun b319 => absurd b319 (by omega)) (fun b319 => ?_)
          refine mv_aload_n d_TrustDeskModel_isSign_8 rfl rfl ?_
          refine tr_getK (k := 18) q312 d_TrustDeskModel_isSign_9 f_TrustDeskModel_201_13 ?_
          refine mv_iload_n d_TrustDeskModel_isSign_12 rfl rfl ?_
          have := mz_hi v313
          refine mv_icmp_neZ (tgt := 20) (a := v313.toInt) (b := 61) d_TrustDeskModel_isSign_13 (by decide) rfl (by decide) (fun b320 => ?_) (fun b320 => ?_)
          · refine mv_iconst (v := 0) d_TrustDeskModel_isSign_20 (by decide) ?_
            refine mv_iret d_TrustDeskModel_isSign_21 rfl (by decide) ?_
            refine mv_if_eq_t (tgt := 54) d_TrustDeskModel_compares_46 (by decide) (by decide) ?_
            refine mv_iconst (v := 0) d_TrustDeskModel_compares_54 (by decide) ?_
            refine mv_istore_n (lv' := [(1, .int 0), (0, .ref o0)]) d_TrustDeskModel_compares_55 rfl (by decide) rfl ?_
            refine mv_iload_n d_TrustDeskModel_compares_56 rfl rfl ?_
            refine mv_if_ne_f (tgt := 65) d_TrustDeskModel_compares_57 (by decide) (by decide) ?_
            refine mv_aload_n d_TrustDeskModel_compares_60 rfl rfl ?_
            refine mv_iconst (v := 1) d_TrustDeskModel_compares_61 (by decide) ?_
            obtain ⟨_, b327, -⟩ := I6.1 _ _ t11
            refine mv_callV (kc' := 0) (ks' := 0) (As := [.int 1]) (st9 := [.int 1, .ref o0]) d_TrustDeskModel_compares_62 lV_TrustDeskModel_240 b327 rfl (tc_TrustDeskModel_fails_x (d := (d + 17)) (x9 := x9) (o0 := o0) (x1 := 1) t11 R8 (by decide) I6.start) rfl (Nat.le_of_ble_eq_true rfl) (Nat.le_of_ble_eq_true rfl) (Nat.le_of_ble_eq_true rfl) (hst := rfl) (fun b321r M322 n323 b321 => ?_)
            obtain ⟨T324, J325, rfl, R328, f329⟩ := b321
            have I326 := I6.call J325 (tm_sub (by decide)) (Or.inl rfl)
            have t330 := J325.up t11
            have := (rv_c I6 J325 (I6.up h_o0) (k := 16) rfl)
            have := (rv_c I6 J325 (I6.up h_o0) (k := 17) rfl)
            have := (rv_c I6 J325 (I6.up h_o0) (k := 22) rfl)
            have E331 : rE M0 M322 o0 1 0 := E12.fails (rE_hv I6 J325 (I6.up h_o0) 15 18 (by decide)) (rE_ha I6 J325 (I6.up h_o0) (by decide)) f329 1 0
            have q332 := J325.keep t11 (by decide) q18
            have q333 := J325.keep t11 (by decide) q312
            refine mv_aload_n d_TrustDeskModel_compares_65 rfl rfl ?_
            obtain ⟨_, b334, -⟩ := I326.1 _ _ t330
            refine mv_callV (kc1 := 0) (ks1 := 0) (kc' := 0) (ks' := 0) (As := []) (st9 := [.ref o0]) d_TrustDeskModel_compares_66 lV_TrustDeskModel_230 b334 rfl (mj_enter (by decide) (Nat.le_of_ble_eq_true rfl) ?_) rfl (Nat.le_of_ble_eq_true rfl) (Nat.le_of_ble_eq_true rfl) (Nat.le_of_ble_eq_true rfl) (hst := rfl) (fun _ _ _ h => h)
            refine mv_aload_n d_TrustDeskModel_isWell_0 rfl rfl ?_
            obtain ⟨v336, q335⟩ := tm_atI I326 t330 (k := 19) rfl
            refine tr_getK q335 d_TrustDeskModel_isWell_1 f_TrustDeskModel_224_13 ?_
            have := R328.f (k := 19) q335 rfl
            have := tm_rv q335
            have := mz_hi v336
            refine mv_if_neZ (tgt := 11) (a := v336.toInt) d_TrustDeskModel_isWell_4 (by decide) rfl (fun b337 => ?_) (fun b337 => ?_)
            · refine mv_iconst (v := 0) d_TrustDeskModel_isWell_11 (by decide) ?_
              refine mv_iret d_TrustDeskModel_isWell_12 rfl (by decide) ?_
              refine mv_if_ne_f (tgt := 73) d_TrustDeskModel_compares_69 (by decide) (by decide) ?_
              exact mv_vret d_TrustDeskModel_compares_72 rfl ⟨_, I326, rfl, R328, E331, (by have := R328.1 15 _ _ rfl; have := R328.1 16 _ _ rfl; have := R328.1 19 _ _ rfl; have := E331.f yS; omega)⟩
            · refine mv_iconst (v := 1) d_TrustDeskModel_isWell_7 (by decide) ?_
              refine mv_goto (tgt := 12) d_TrustDeskModel_isWell_8 (by decide) ?_
              refine mv_iret d_TrustDeskModel_isWell_12 rfl (by decide) ?_
              refine mv_if_ne_t (tgt := 73) d_TrustDeskModel_compares_69 (by decide) (by decide) ?_
              refine mv_aload_n d_TrustDeskModel_compares_73 rfl rfl ?_
              obtain ⟨_, b344, -⟩ := I326.1 _ _ t330
              refine mv_callV (kc' := 0) (ks' := 0) (As := []) (st9 := [.ref o0]) d_TrustDeskModel_compares_74 lV_TrustDeskModel_237 b344 rfl (tc_TrustDeskModel_next_x (d := (d + 16)) (x9 := x9) (o0 := o0) t330 R328 I326.start) rfl (Nat.le_of_ble_eq_true rfl) (Nat.le_of_ble_eq_true rfl) (Nat.le_of_ble_eq_true rfl) (hst := rfl) (fun b338r M339 n340 b338 => ?_)
              obtain ⟨T341, J342, rfl, R345, f346, f347⟩ := b338
              have I343 := I326.call J342 (tm_sub (by decide)) (Or.inl rfl)
              have t348 := J342.up t330
              have := (rv_c I326 J342 (I326.up h_o0) (k := 19) rfl)
              have := (rv_c I326 J342 (I326.up h_o0) (k := 22) rfl)
              have h350 : rv M322 o0 16 + 1 ≤ rv M322 o0 15 := (by have := R328.1 15 _ _ rfl; have := R328.1 16 _ _ rfl; have := R328.1 19 _ _ rfl; have := E331.f yS; omega)
              have E349 : rE M0 M339 o0 1 1 := E331.next f346 f347 (rv_c I326 J342 (I326.up h_o0) (k := 19) rfl) (rE_ha I326 J342 (I326.up h_o0) (by decide)) (e := 1) h350 (by decide)
              have q351 := J342.keep t330 (by decide) q335
              refine mv_aload_n d_TrustDeskModel_compares_77 rfl rfl ?_
              obtain ⟨_, b358, -⟩ := I343.1 _ _ t348
              refine mv_callV (kc' := 0) (ks' := 0) (As := []) (st9 := [.ref o0]) d_TrustDeskModel_compares_78 lV_TrustDeskModel_288 b358 rfl (tc_TrustDeskModel_sum_q4_x (d := d) (x9 := x9) (o0 := o0) t348 R345 E349.1 (by have := R345.1 15 _ _ rfl; have := R345.1 16 _ _ rfl; have := R345.1 19 _ _ rfl; have := E349.f yS; omega) (by have := R345.1 15 _ _ rfl; have := R345.1 16 _ _ rfl; have := R345.1 19 _ _ rfl; have := E349.f yS; omega) I343.start) rfl (Nat.le_of_ble_eq_true rfl) (Nat.le_of_ble_eq_true rfl) (Nat.le_of_ble_eq_true rfl) (hst := rfl) (fun b352r M353 n354 b352 => ?_)
              obtain ⟨T355, J356, rfl, R359, f360, f361⟩ := b352
              have I357 := I343.call J356 (tm_sub (by decide)) (Or.inl rfl)
              have t362 := J356.up t348
              have E363 : rE M0 M353 o0 2 1 := E349.trans f360 (by decide) (yR.2 5 _ _ rfl 44).1 (by decide) (by decide)
              have := f360.w
              refine mv_aload_n d_TrustDeskModel_compares_81 rfl rfl ?_
              refine mv_iload_n d_TrustDeskModel_compares_82 rfl rfl ?_
              obtain ⟨_, b370, -⟩ := I357.1 _ _ t362
              refine mv_callV (kc' := 0) (ks' := 0) (As := [.int 0]) (st9 := [.int 0, .ref o0]) d_TrustDeskModel_compares_83 lV_TrustDeskModel_279 b370 rfl (tc_TrustDeskModel_emits_x (d := (d + 16)) (x9 := x9) (o0 := o0) (x1 := 0) t362 R359 (by have := R359.1 15 _ _ rfl; have := R359.1 16 _ _ rfl; have := R359.1 19 _ _ rfl; have := E363.f yS; omega) (by decide) I357.start) rfl (Nat.le_of_ble_eq_true rfl) (Nat.le_of_ble_eq_true rfl) (Nat.le_of_ble_eq_true rfl) (hst := rfl) (fun b364r M365 n366 b364 => ?_)
              obtain ⟨T367, J368, rfl, R371, f372⟩ := b364
              have I369 := I357.call J368 (tm_sub (by decide)) (Or.inl rfl)
              have t373 := J368.up t362
              have := (rv_c I357 J368 (I357.up h_o0) (k := 16) rfl)
              have := (rv_c I357 J368 (I357.up h_o0) (k := 17) rfl)
              have := (rv_c I357 J368 (I357.up h_o0) (k := 19) rfl)
              have := (rv_c I357 J368 (I357.up h_o0) (k := 22) rfl)
              have E374 : rE M0 M365 o0 3 0 := E363.emit f372 (rE_hv I357 J368 (I357.up h_o0) 15 19 (by decide)) (yR.2 5 _ _ rfl 44).1 (by decide) (Or.inl ⟨by have := R359.1 15 _ _ rfl; have := R359.1 16 _ _ rfl; have := R359.1 19 _ _ rfl; have := E363.f yS; omega, by decide⟩) (by decide)
              exact mv_vret d_TrustDeskModel_compares_86 rfl ⟨_, I369, rfl, R371, E374.vac (by have := R371.1 15 _ _ rfl; have := R371.1 16 _ _ rfl; have := R371.1 19 _ _ rfl; have := E374.f yS; omega) 1 0, (by have := R371.1 15 _ _ rfl; have := R371.1 16 _ _ rfl; have := R371.1 19 _ _ rfl; have := E374.f yS; omega)⟩
          · refine mv_iconst (v := 1) d_TrustDeskModel_isSign_16 (by decide) ?_
            refine mv_goto (tgt := 21) d_TrustDeskModel_isSign_17 (by decide) ?_
            refine mv_iret d_TrustDeskModel_isSign_21 rfl (by decide) ?_
            refine mv_if_eq_f (tgt := 54) d_TrustDeskModel_compares_46 (by decide) (by decide) ?_
            refine mv_bipush (v := (-6)) d_TrustDeskModel_compares_49 (by decide) ?_
            refine mv_goto (tgt := 55) d_TrustDeskModel_compares_51 (by decide) ?_
            refine mv_istore_n (lv' := [(1, .int (-6)), (0, .ref o0)]) d_TrustDeskModel_compares_55 rfl (by decide) rfl ?_
            refine mv_iload_n d_TrustDeskModel_compares_56 rfl rfl ?_
            refine mv_if_ne_t (tgt := 65) d_TrustDeskModel_compares_57 (by decide) (by decide) ?_
            refine mv_aload_n d_TrustDeskModel_compares_65 rfl rfl ?_
            obtain ⟨_, b375, -⟩ := I6.1 _ _ t11
            refine mv_callV (kc1 := 0) (ks1 := 0) (kc' := 0) (ks' := 0) (As := []) (st9 := [.ref o0]) d_TrustDeskModel_compares_66 lV_TrustDeskModel_230 b375 rfl (mj_enter (by decide) (Nat.le_of_ble_eq_true rfl) ?_) rfl (Nat.le_of_ble_eq_true rfl) (Nat.le_of_ble_eq_true rfl) (Nat.le_of_ble_eq_true rfl) (hst := rfl) (fun _ _ _ h => h)
            refine mv_aload_n d_TrustDeskModel_isWell_0 rfl rfl ?_
            refine tr_getK (k := 19) q14 d_TrustDeskModel_isWell_1 f_TrustDeskModel_224_13 ?_
            have := mz_hi v15
            refine mv_if_neZ (tgt := 11) (a := v15.toInt) d_TrustDeskModel_isWell_4 (by decide) rfl (fun b376 => absurd b376 (by omega)) (fun b376 => ?_)
            refine mv_iconst (v := 1) d_TrustDeskModel_isWell_7 (by decide) ?_
            refine mv_goto (tgt := 12) d_TrustDeskModel_isWell_8 (by decide) ?_
            refine mv_iret d_TrustDeskModel_isWell_12 rfl (by decide) ?_
            refine mv_if_ne_t (tgt := 73) d_TrustDeskModel_compares_69 (by decide) (by decide) ?_
            refine mv_aload_n d_TrustDeskModel_compares_73 rfl rfl ?_
            obtain ⟨_, b383, -⟩ := I6.1 _ _ t11
            refine mv_callV (kc' := 0) (ks' := 0) (As := []) (st9 := [.ref o0]) d_TrustDeskModel_compares_74 lV_TrustDeskModel_237 b383 rfl (tc_TrustDeskModel_next_x (d := (d + 16)) (x9 := x9) (o0 := o0) t11 R8 I6.start) rfl (Nat.le_of_ble_eq_true rfl) (Nat.le_of_ble_eq_true rfl) (Nat.le_of_ble_eq_true rfl) (hst := rfl) (fun b377r M378 n379 b377 => ?_)
            obtain ⟨T380, J381, rfl, R384, f385, f386⟩ := b377
            have I382 := I6.call J381 (tm_sub (by decide)) (Or.inl rfl)
            have t387 := J381.up t11
            have := (rv_c I6 J381 (I6.up h_o0) (k := 19) rfl)
            have := (rv_c I6 J381 (I6.up h_o0) (k := 22) rfl)
            have h389 : rv M2 o0 16 + 1 ≤ rv M2 o0 15 := (by have := R8.1 15 _ _ rfl; have := R8.1 16 _ _ rfl; have := R8.1 19 _ _ rfl; have := E12.f yS; omega)
            have E388 : rE M0 M378 o0 1 1 := E12.next f385 f386 (rv_c I6 J381 (I6.up h_o0) (k := 19) rfl) (rE_ha I6 J381 (I6.up h_o0) (by decide)) (e := 1) h389 (by decide)
            have q390 := J381.keep t11 (by decide) q14
            refine mv_aload_n d_TrustDeskModel_compares_77 rfl rfl ?_
            obtain ⟨_, b397, -⟩ := I382.1 _ _ t387
            refine mv_callV (kc' := 0) (ks' := 0) (As := []) (st9 := [.ref o0]) d_TrustDeskModel_compares_78 lV_TrustDeskModel_288 b397 rfl (tc_TrustDeskModel_sum_q4_x (d := d) (x9 := x9) (o0 := o0) t387 R384 E388.1 (by have := R384.1 15 _ _ rfl; have := R384.1 16 _ _ rfl; have := R384.1 19 _ _ rfl; have := E388.f yS; omega) (by have := R384.1 15 _ _ rfl; have := R384.1 16 _ _ rfl; have := R384.1 19 _ _ rfl; have := E388.f yS; omega) I382.start) rfl (Nat.le_of_ble_eq_true rfl) (Nat.le_of_ble_eq_true rfl) (Nat.le_of_ble_eq_true rfl) (hst := rfl) (fun b391r M392 n393 b391 => ?_)
            obtain ⟨T394, J395, rfl, R398, f399, f400⟩ := b391
            have I396 := I382.call J395 (tm_sub (by decide)) (Or.inl rfl)
            have t401 := J395.up t387
            have E402 : rE M0 M392 o0 2 1 := E388.trans f399 (by decide) (yR.2 5 _ _ rfl 44).1 (by decide) (by decide)
            have := f399.w
            refine mv_aload_n d_TrustDeskModel_compares_81 rfl rfl ?_
            refine mv_iload_n d_TrustDeskModel_compares_82 rfl rfl ?_
            obtain ⟨_, b409, -⟩ := I396.1 _ _ t401
            refine mv_callV (kc' := 0) (ks' := 0) (As := [.int (-6)]) (st9 := [.int (-6), .ref o0]) d_TrustDeskModel_compares_83 lV_TrustDeskModel_279 b409 rfl (tc_TrustDeskModel_emits_x (d := (d + 16)) (x9 := x9) (o0 := o0) (x1 := (-6)) t401 R398 (by have := R398.1 15 _ _ rfl; have := R398.1 16 _ _ rfl; have := R398.1 19 _ _ rfl; have := E402.f yS; omega) (by decide) I396.start) rfl (Nat.le_of_ble_eq_true rfl) (Nat.le_of_ble_eq_true rfl) (Nat.le_of_ble_eq_true rfl) (hst := rfl) (fun b403r M404 n405 b403 => ?_)
            obtain ⟨T406, J407, rfl, R410, f411⟩ := b403
            have I408 := I396.call J407 (tm_sub (by decide)) (Or.inl rfl)
            have t412 := J407.up t401
            have := (rv_c I396 J407 (I396.up h_o0) (k := 16) rfl)
            have := (rv_c I396 J407 (I396.up h_o0) (k := 17) rfl)
            have := (rv_c I396 J407 (I396.up h_o0) (k := 19) rfl)
            have := (rv_c I396 J407 (I396.up h_o0) (k := 22) rfl)
            have E413 : rE M0 M404 o0 1 0 := E402.emit f411 (rE_hv I396 J407 (I396.up h_o0) 15 19 (by decide)) (yR.2 5 _ _ rfl 44).1 (by decide) (Or.inr (Or.inr ⟨by decide, by decide, by decide, by decide⟩)) (by decide)
            exact mv_vret d_TrustDeskModel_compares_86 rfl ⟨_, I408, rfl, R410, E413, (by have := R410.1 15 _ _ rfl; have := R410.1 16 _ _ rfl; have := R410.1 19 _ _ rfl; have := E413.f yS; omega)⟩
        · refine mv_iconst (v := 1) d_TrustDeskModel_isSign_16 (by decide) ?_
          refine mv_goto (tgt := 21) d_TrustDeskModel_isSign_17 (by decide) ?_
          refine mv_iret d_TrustDeskModel_isSign_21 rfl (by decide) ?_
          refine mv_if_eq_f (tgt := 40) d_TrustDeskModel_compares_32 (by decide) (by decide) ?_
          refine mv_bipush (v := (-5)) d_TrustDeskModel_compares_35 (by decide) ?_
          refine mv_goto (tgt := 55) d_TrustDeskModel_compares_37 (by decide) ?_
          refine mv_istore_n (lv' := [(1, .int (-5)), (0, .ref o0)]) d_TrustDeskModel_compares_55 rfl (by decide) rfl ?_
          refine mv_iload_n d_TrustDeskModel_compares_56 rfl rfl ?_
          refine mv_if_ne_t (tgt := 65) d_TrustDeskModel_compares_57 (by decide) (by decide) ?_
          refine mv_aload_n d_TrustDeskModel_compares_65 rfl rfl ?_
          obtain ⟨_, b414, -⟩ := I6.1 _ _ t11
          refine mv_callV (kc1 := 0) (ks1 := 0) (kc' := 0) (ks' := 0) (As := []) (st9 := [.ref o0]) d_TrustDeskModel_compares_66 lV_TrustDeskModel_230 b414 rfl (mj_enter (by decide) (Nat.le_of_ble_eq_true rfl) ?_) rfl (Nat.le_of_ble_eq_true rfl) (Nat.le_of_ble_eq_true rfl) (Nat.le_of_ble_eq_true rfl) (hst := rfl) (fun _ _ _ h => h)
          refine mv_aload_n d_TrustDeskModel_isWell_0 rfl rfl ?_
          refine tr_getK (k := 19) q14 d_TrustDeskModel_isWell_1 f_TrustDeskModel_224_13 ?_
          have := mz_hi v15
          refine mv_if_neZ (tgt := 11) (a := v15.toInt) d_TrustDeskModel_isWell_4 (by decide) rfl (fun b415 => absurd b415 (by omega)) (fun b415 => ?_)
          refine mv_iconst (v := 1) d_TrustDeskModel_isWell_7 (by decide) ?_
          refine mv_goto (tgt := 12) d_TrustDeskModel_isWell_8 (by decide) ?_
          refine mv_iret d_TrustDeskModel_isWell_12 rfl (by decide) ?_
          refine mv_if_ne_t (tgt := 73) d_TrustDeskModel_compares_69 (by decide) (by decide) ?_
          refine mv_aload_n d_TrustDeskModel_compares_73 rfl rfl ?_
          obtain ⟨_, b422, -⟩ := I6.1 _ _ t11
          refine mv_callV (kc' := 0) (ks' := 0) (As := []) (st9 := [.ref o0]) d_TrustDeskModel_compares_74 lV_TrustDeskModel_237 b422 rfl (tc_TrustDeskModel_next_x (d := (d + 16)) (x9 := x9) (o0 := o0) t11 R8 I6.start) rfl (Nat.le_of_ble_eq_true rfl) (Nat.le_of_ble_eq_true rfl) (Nat.le_of_ble_eq_true rfl) (hst := rfl) (fun b416r M417 n418 b416 => ?_)
          obtain ⟨T419, J420, rfl, R423, f424, f425⟩ := b416
          have I421 := I6.call J420 (tm_sub (by decide)) (Or.inl rfl)
          have t426 := J420.up t11
          have := (rv_c I6 J420 (I6.up h_o0) (k := 19) rfl)
          have := (rv_c I6 J420 (I6.up h_o0) (k := 22) rfl)
          have h428 : rv M2 o0 16 + 1 ≤ rv M2 o0 15 := (by have := R8.1 15 _ _ rfl; have := R8.1 16 _ _ rfl; have := R8.1 19 _ _ rfl; have := E12.f yS; omega)
          have E427 : rE M0 M417 o0 1 1 := E12.next f424 f425 (rv_c I6 J420 (I6.up h_o0) (k := 19) rfl) (rE_ha I6 J420 (I6.up h_o0) (by decide)) (e := 1) h428 (by decide)
          have q429 := J420.keep t11 (by decide) q14
          refine mv_aload_n d_TrustDeskModel_compares_77 rfl rfl ?_
          obtain ⟨_, b436, -⟩ := I421.1 _ _ t426
          refine mv_callV (kc' := 0) (ks' := 0) (As := []) (st9 := [.ref o0]) d_TrustDeskModel_compares_78 lV_TrustDeskModel_288 b436 rfl (tc_TrustDeskModel_sum_q4_x (d := d) (x9 := x9) (o0 := o0) t426 R423 E427.1 (by have := R423.1 15 _ _ rfl; have := R423.1 16 _ _ rfl; have := R423.1 19 _ _ rfl; have := E427.f yS; omega) (by have := R423.1 15 _ _ rfl; have := R423.1 16 _ _ rfl; have := R423.1 19 _ _ rfl; have := E427.f yS; omega) I421.start) rfl (Nat.le_of_ble_eq_true rfl) (Nat.le_of_ble_eq_true rfl) (Nat.le_of_ble_eq_true rfl) (hst := rfl) (fun b430r M431 n432 b430 => ?_)
          obtain ⟨T433, J434, rfl, R437, f438, f439⟩ := b430
          have I435 := I421.call J434 (tm_sub (by decide)) (Or.inl rfl)
          have t440 := J434.up t426
          have E441 : rE M0 M431 o0 2 1 := E427.trans f438 (by decide) (yR.2 5 _ _ rfl 44).1 (by decide) (by decide)
          have := f438.w
          refine mv_aload_n d_TrustDeskModel_compares_81 rfl rfl ?_
          refine mv_iload_n d_TrustDeskModel_compares_82 rfl rfl ?_
          obtain ⟨_, b448, -⟩ := I435.1 _ _ t440
          refine mv_callV (kc' := 0) (ks' := 0) (As := [.int (-5)]) (st9 := [.int (-5), .ref o0]) d_TrustDeskModel_compares_83 lV_TrustDeskModel_279 b448 rfl (tc_TrustDeskModel_emits_x (d := (d + 16)) (x9 := x9) (o0 := o0) (x1 := (-5)) t440 R437 (by have := R437.1 15 _ _ rfl; have := R437.1 16 _ _ rfl; have := R437.1 19 _ _ rfl; have := E441.f yS; omega) (by decide) I435.start) rfl (Nat.le_of_ble_eq_true rfl) (Nat.le_of_ble_eq_true rfl) (Nat.le_of_ble_eq_true rfl) (hst := rfl) (fun b442r M443 n444 b442 => ?_)
          obtain ⟨T445, J446, rfl, R449, f450⟩ := b442
          have I447 := I435.call J446 (tm_sub (by decide)) (Or.inl rfl)
          have t451 := J446.up t440
          have := (rv_c I435 J446 (I435.up h_o0) (k := 16) rfl)
          have := (rv_c I435 J446 (I435.up h_o0) (k := 17) rfl)
          have := (rv_c I435 J446 (I435.up h_o0) (k := 19) rfl)
          have := (rv_c I435 J446 (I435.up h_o0) (k := 22) rfl)
          have E452 : rE M0 M443 o0 1 0 := E441.emit f450 (rE_hv I435 J446 (I435.up h_o0) 15 19 (by decide)) (yR.2 5 _ _ rfl 44).1 (by decide) (Or.inr (Or.inr ⟨by decide, by decide, by decide, by decide⟩)) (by decide)
          exact mv_vret d_TrustDeskModel_compares_86 rfl ⟨_, I447, rfl, R449, E452, (by have := R449.1 15 _ _ rfl; have := R449.1 16 _ _ rfl; have := R449.1 19 _ _ rfl; have := E452.f yS; omega)⟩
      · refine mv_iconst (v := 1) d_TrustDeskModel_isSign_16 (by decide) ?_
        refine mv_goto (tgt := 21) d_TrustDeskModel_isSign_17 (by decide) ?_
        refine mv_iret d_TrustDeskModel_isSign_21 rfl (by decide) ?_
        refine mv_if_eq_f (tgt := 26) d_TrustDeskModel_compares_18 (by decide) (by decide) ?_
        refine mv_bipush (v := (-4)) d_TrustDeskModel_compares_21 (by decide) ?_
        refine mv_goto (tgt := 55) d_TrustDeskModel_compares_23 (by decide) ?_
        refine mv_istore_n (lv' := [(1, .int (-4)), (0, .ref o0)]) d_TrustDeskModel_compares_55 rfl (by decide) rfl ?_
        refine mv_iload_n d_TrustDeskModel_compares_56 rfl rfl ?_
        refine mv_if_ne_t (tgt := 65) d_TrustDeskModel_compares_57 (by decide) (by decide) ?_
        refine mv_aload_n d_TrustDeskModel_compares_65 rfl rfl ?_
        obtain ⟨_, b453, -⟩ := I6.1 _ _ t11
        refine mv_callV (kc1 := 0) (ks1 := 0) (kc' := 0) (ks' := 0) (As := []) (st9 := [.ref o0]) d_TrustDeskModel_compares_66 lV_TrustDeskModel_230 b453 rfl (mj_enter (by decide) (Nat.le_of_ble_eq_true rfl) ?_) rfl (Nat.le_of_ble_eq_true rfl) (Nat.le_of_ble_eq_true rfl) (Nat.le_of_ble_eq_true rfl) (hst := rfl) (fun _ _ _ h => h)
        refine mv_aload_n d_TrustDeskModel_isWell_0 rfl rfl ?_
        refine tr_getK (k := 19) q14 d_TrustDeskModel_isWell_1 f_TrustDeskModel_224_13 ?_
        have := mz_hi v15
        refine mv_if_neZ (tgt := 11) (a := v15.toInt) d_TrustDeskModel_isWell_4 (by decide) rfl (fun b454 => absurd b454 (by omega)) (fun b454 => ?_)
        refine mv_iconst (v := 1) d_TrustDeskModel_isWell_7 (by decide) ?_
        refine mv_goto (tgt := 12) d_TrustDeskModel_isWell_8 (by decide) ?_
        refine mv_iret d_TrustDeskModel_isWell_12 rfl (by decide) ?_
        refine mv_if_ne_t (tgt := 73) d_TrustDeskModel_compares_69 (by decide) (by decide) ?_
        refine mv_aload_n d_TrustDeskModel_compares_73 rfl rfl ?_
        obtain ⟨_, b461, -⟩ := I6.1 _ _ t11
        refine mv_callV (kc' := 0) (ks' := 0) (As := []) (st9 := [.ref o0]) d_TrustDeskModel_compares_74 lV_TrustDeskModel_237 b461 rfl (tc_TrustDeskModel_next_x (d := (d + 16)) (x9 := x9) (o0 := o0) t11 R8 I6.start) rfl (Nat.le_of_ble_eq_true rfl) (Nat.le_of_ble_eq_true rfl) (Nat.le_of_ble_eq_true rfl) (hst := rfl) (fun b455r M456 n457 b455 => ?_)
        obtain ⟨T458, J459, rfl, R462, f463, f464⟩ := b455
        have I460 := I6.call J459 (tm_sub (by decide)) (Or.inl rfl)
        have t465 := J459.up t11
        have := (rv_c I6 J459 (I6.up h_o0) (k := 19) rfl)
        have := (rv_c I6 J459 (I6.up h_o0) (k := 22) rfl)
        have h467 : rv M2 o0 16 + 1 ≤ rv M2 o0 15 := (by have := R8.1 15 _ _ rfl; have := R8.1 16 _ _ rfl; have := R8.1 19 _ _ rfl; have := E12.f yS; omega)
        have E466 : rE M0 M456 o0 1 1 := E12.next f463 f464 (rv_c I6 J459 (I6.up h_o0) (k := 19) rfl) (rE_ha I6 J459 (I6.up h_o0) (by decide)) (e := 1) h467 (by decide)
        have q468 := J459.keep t11 (by decide) q14
        refine mv_aload_n d_TrustDeskModel_compares_77 rfl rfl ?_
        obtain ⟨_, b475, -⟩ := I460.1 _ _ t465
        refine mv_callV (kc' := 0) (ks' := 0) (As := []) (st9 := [.ref o0]) d_TrustDeskModel_compares_78 lV_TrustDeskModel_288 b475 rfl (tc_TrustDeskModel_sum_q4_x (d := d) (x9 := x9) (o0 := o0) t465 R462 E466.1 (by have := R462.1 15 _ _ rfl; have := R462.1 16 _ _ rfl; have := R462.1 19 _ _ rfl; have := E466.f yS; omega) (by have := R462.1 15 _ _ rfl; have := R462.1 16 _ _ rfl; have := R462.1 19 _ _ rfl; have := E466.f yS; omega) I460.start) rfl (Nat.le_of_ble_eq_true rfl) (Nat.le_of_ble_eq_true rfl) (Nat.le_of_ble_eq_true rfl) (hst := rfl) (fun b469r M470 n471 b469 => ?_)
        obtain ⟨T472, J473, rfl, R476, f477, f478⟩ := b469
        have I474 := I460.call J473 (tm_sub (by decide)) (Or.inl rfl)
        have t479 := J473.up t465
        have E480 : rE M0 M470 o0 2 1 := E466.trans f477 (by decide) (yR.2 5 _ _ rfl 44).1 (by decide) (by decide)
        have := f477.w
        refine mv_aload_n d_TrustDeskModel_compares_81 rfl rfl ?_
        refine mv_iload_n d_TrustDeskModel_compares_82 rfl rfl ?_
        obtain ⟨_, b487, -⟩ := I474.1 _ _ t479
        refine mv_callV (kc' := 0) (ks' := 0) (As := [.int (-4)]) (st9 := [.int (-4), .ref o0]) d_TrustDeskModel_compares_83 lV_TrustDeskModel_279 b487 rfl (tc_TrustDeskModel_emits_x (d := (d + 16)) (x9 := x9) (o0 := o0) (x1 := (-4)) t479 R476 (by have := R476.1 15 _ _ rfl; have := R476.1 16 _ _ rfl; have := R476.1 19 _ _ rfl; have := E480.f yS; omega) (by decide) I474.start) rfl (Nat.le_of_ble_eq_true rfl) (Nat.le_of_ble_eq_true rfl) (Nat.le_of_ble_eq_true rfl) (hst := rfl) (fun b481r M482 n483 b481 => ?_)
        obtain ⟨T484, J485, rfl, R488, f489⟩ := b481
        have I486 := I474.call J485 (tm_sub (by decide)) (Or.inl rfl)
        have t490 := J485.up t479
        have := (rv_c I474 J485 (I474.up h_o0) (k := 16) rfl)
        have := (rv_c I474 J485 (I474.up h_o0) (k := 17) rfl)
        have := (rv_c I474 J485 (I474.up h_o0) (k := 19) rfl)
        have := (rv_c I474 J485 (I474.up h_o0) (k := 22) rfl)
        have E491 : rE M0 M482 o0 1 0 := E480.emit f489 (rE_hv I474 J485 (I474.up h_o0) 15 19 (by decide)) (yR.2 5 _ _ rfl 44).1 (by decide) (Or.inr (Or.inr ⟨by decide, by decide, by decide, by decide⟩)) (by decide)
        exact mv_vret d_TrustDeskModel_compares_86 rfl ⟨_, I486, rfl, R488, E491, (by have := R488.1 15 _ _ rfl; have := R488.1 16 _ _ rfl; have := R488.1 19 _ _ rfl; have := E491.f yS; omega)⟩
def w_TrustDeskModel_part_0_q4_x : List Nat := [1315, 1316, 1317, 1318, 1319, 1320, 1322, 20004, 20005]
theorem tc_TrustDeskModel_part_0_q4_x {g : mj_G} {l : Launch} {d : Nat} {T0 : tm_H} {M0 : mj_M} {n0 x9 : Nat} {o0 : Nat} (h_o0 : T0 o0 = some (0, 13, 0)) (yR : rI M0 o0) (yT : rT M0 o0) (yS : rv M0 o0 19 = 0 → ra M0 o0 5 44 ≤ rv M0 o0 16) (yL : rv M0 o0 19 ≠ 0 ∨ (1 ≤ rv M0 o0 22 ∧ rv M0 o0 22 ≤ 4)) (I0 : tm_I tm_FT (tm_in w_TrustDeskModel_part_0_q4_x) x9 T0 M0 n0 T0 M0 n0) : mj_Met g l kY_TrustDeskModel_part_0 (d + 19) [.ref o0] M0 n0 0 0 (tm_Q tm_FT (tm_in w_TrustDeskModel_part_0_q4_x) x9 T0 M0 n0 (fun r _ M => r = none ∧ rI M o0 ∧ (rE M0 M o0 1 0) ∧ (rv M o0 19 = 0 → rv M o0 22 = rv M0 o0 22))) := by
  refine mj_enter (by decide) (Nat.le_of_ble_eq_true rfl) ?_
  have yE0 := rE.rf yT
  refine mv_iconst (v := 0) d_TrustDeskModel_part_0_0 (by decide) ?_
  refine mv_istore_n (lv' := [(1, .int 0), (0, .ref o0)]) d_TrustDeskModel_part_0_1 rfl (by decide) rfl ?_
  have L2_1 : ∀ (k : Nat) (i1_1 : Int32) (T_1 : tm_H) (M_1 : mj_M) (n_1 : Nat), tm_I tm_FT (tm_in w_TrustDeskModel_part_0_q4_x) x9 T0 M0 n0 T_1 M_1 n_1 → T_1 o0 = some (0, 13, 0) → (rv M_1 o0 19 = 0 → rv M_1 o0 22 = rv M0 o0 22) → 0 ≤ i1_1.toInt → i1_1.toInt ≤ 1 → (rI M_1 o0) → (rE M0 M_1 o0 0 i1_1.toInt) → 5 * (401 - rv M_1 o0 16) - rv M_1 o0 19 < (k : Int) → mj_V g l kY_TrustDeskModel_part_0 (d + 19) 2 [(1, .int i1_1), (0, .ref o0)] [] M_1 n_1 0 0 (tm_Q tm_FT (tm_in w_TrustDeskModel_part_0_q4_x) x9 T0 M0 n0 (fun r _ M => r = none ∧ rI M o0 ∧ (rE M0 M o0 1 0) ∧ (rv M o0 19 = 0 → rv M o0 22 = rv M0 o0 22))) := by
    intro k1
    induction k1 with
    | zero =>
      intro i1_1 T_1 M_1 n_1 I_1 h_q0_1 iv0_1 iv1_1 iv2_1 kKR_1 kKE_1 hk1
      have := kKR_1.1 15 _ _ rfl
      have := kKR_1.1 16 _ _ rfl
      have := kKR_1.1 19 _ _ rfl
      exfalso; omega
    | succ k1 ih1 =>
      intro i1_1 T_1 M_1 n_1 I_1 h_q0_1 iv0_1 iv1_1 iv2_1 kKR_1 kKE_1 hk1
      have := kKE_1.f yS
      refine mv_aload_n d_TrustDeskModel_part_0_2 rfl rfl ?_
      obtain ⟨_, b2, -⟩ := I_1.1 _ _ h_q0_1
      refine mv_callV (kc1 := 0) (ks1 := 0) (kc' := 0) (ks' := 0) (As := []) (st9 := [.ref o0]) d_TrustDeskModel_part_0_3 lV_TrustDeskModel_230 b2 rfl (mj_enter (by decide) (Nat.le_of_ble_eq_true rfl) ?_) rfl (Nat.le_of_ble_eq_true rfl) (Nat.le_of_ble_eq_true rfl) (Nat.le_of_ble_eq_true rfl) (hst := rfl) (fun _ _ _ h => h)
      refine mv_aload_n d_TrustDeskModel_isWell_0 rfl rfl ?_
      obtain ⟨v4, q3⟩ := tm_atI I_1 h_q0_1 (k := 19) rfl
      refine tr_getK q3 d_TrustDeskModel_isWell_1 f_TrustDeskModel_224_13 ?_
      have := kKR_1.f (k := 19) q3 rfl
      have := tm_rv q3
      have := mz_hi v4
      refine mv_if_neZ (tgt := 11) (a := v4.toInt) d_TrustDeskModel_isWell_4 (by decide) rfl (fun b5 => ?_) (fun b5 => ?_)
      · refine mv_iconst (v := 0) d_TrustDeskModel_isWell_11 (by decide) ?_
        refine mv_iret d_TrustDeskModel_isWell_12 rfl (by decide) ?_
        refine mv_if_eq_t (tgt := 36) d_TrustDeskModel_part_0_6 (by decide) (by decide) ?_
        refine mv_aload_n d_TrustDeskModel_part_0_36 rfl rfl ?_
        obtain ⟨_, b6, -⟩ := I_1.1 _ _ h_q0_1
        refine mv_callV (kc1 := 0) (ks1 := 0) (kc' := 0) (ks' := 0) (As := []) (st9 := [.ref o0]) d_TrustDeskModel_part_0_37 lV_TrustDeskModel_230 b6 rfl (mj_enter (by decide) (Nat.le_of_ble_eq_true rfl) ?_) rfl (Nat.le_of_ble_eq_true rfl) (Nat.le_of_ble_eq_true rfl) (Nat.le_of_ble_eq_true rfl) (hst := rfl) (fun _ _ _ h => h)
        refine mv_aload_n d_TrustDeskModel_isWell_0 rfl rfl ?_
        refine tr_getK (k := 19) q3 d_TrustDeskModel_isWell_1 f_TrustDeskModel_224_13 ?_
        have := mz_hi v4
        refine mv_if_neZ (tgt := 11) (a := v4.toInt) d_TrustDeskModel_isWell_4 (by decide) rfl (fun b7 => ?_) (fun b7 => ?_)
        · refine mv_iconst (v := 0) d_TrustDeskModel_isWell_11 (by decide) ?_
          refine mv_iret d_TrustDeskModel_isWell_12 rfl (by decide) ?_
          refine mv_if_ne_f (tgt := 44) d_TrustDeskModel_part_0_40 (by decide) (by decide) ?_
          exact mv_vret d_TrustDeskModel_part_0_43 rfl ⟨_, I_1, rfl, kKR_1, kKE_1.vac (by have := kKR_1.1 15 _ _ rfl; have := kKR_1.1 16 _ _ rfl; have := kKR_1.1 19 _ _ rfl; have := kKE_1.f yS; omega) 1 0, (by have := kKR_1.1 15 _ _ rfl; have := kKR_1.1 16 _ _ rfl; have := kKR_1.1 19 _ _ rfl; have := kKE_1.f yS; omega)⟩
        · refine mv_iconst (v := 1) d_TrustDeskModel_isWell_7 (by decide) ?_
          refine mv_goto (tgt := 12) d_TrustDeskModel_isWell_8 (by decide) ?_
          refine mv_iret d_TrustDeskModel_isWell_12 rfl (by decide) ?_
          refine mv_if_ne_t (tgt := 44) d_TrustDeskModel_part_0_40 (by decide) (by decide) ?_
          refine mv_aload_n d_TrustDeskModel_part_0_44 rfl rfl ?_
          refine mv_bipush (v := 91) d_TrustDeskModel_part_0_45 (by decide) ?_
          obtain ⟨_, b8, -⟩ := I_1.1 _ _ h_q0_1
          refine mv_callV (kc1 := 0) (ks1 := 0) (kc' := 0) (ks' := 0) (As := [.int 91]) (st9 := [.int 91, .ref o0]) d_TrustDeskModel_part_0_47 lV_TrustDeskModel_234 b8 rfl (mj_enter (by decide) (Nat.le_of_ble_eq_true rfl) ?_) rfl (Nat.le_of_ble_eq_true rfl) (Nat.le_of_ble_eq_true rfl) (Nat.le_of_ble_eq_true rfl) (hst := rfl) (fun _ _ _ h => h)
          refine mv_aload_n d_TrustDeskModel_isSign_0 rfl rfl ?_
          obtain ⟨v10, q9⟩ := tm_atI I_1 h_q0_1 (k := 17) rfl
          refine tr_getK q9 d_TrustDeskModel_isSign_1 f_TrustDeskModel_198_13 ?_
          have := tm_rv q9
          refine mv_iconst (v := 4) d_TrustDeskModel_isSign_4 (by decide) ?_
          have := mz_hi v10
          refine mv_icmp_neZ (tgt := 20) (a := v10.toInt) (b := 4) d_TrustDeskModel_isSign_5 (by decide) rfl (by decide) (fun b11 => ?_) (fun b11 => ?_)
          · refine mv_iconst (v := 0) d_TrustDeskModel_isSign_20 (by decide) ?_
            refine mv_iret d_TrustDeskModel_isSign_21 rfl (by decide) ?_
            refine mv_if_eq_t (tgt := 80) d_TrustDeskModel_part_0_50 (by decide) (by decide) ?_
            refine mv_aload_n d_TrustDeskModel_part_0_80 rfl rfl ?_
            obtain ⟨_, b18, -⟩ := I_1.1 _ _ h_q0_1
            refine mv_callV (kc' := 0) (ks' := 0) (As := []) (st9 := [.ref o0]) d_TrustDeskModel_part_0_81 lV_TrustDeskModel_305 b18 rfl (tc_TrustDeskModel_compares_q4_x (d := d) (x9 := x9) (o0 := o0) h_q0_1 kKR_1 kKE_1.1 (by have := kKR_1.1 15 _ _ rfl; have := kKR_1.1 16 _ _ rfl; have := kKR_1.1 19 _ _ rfl; have := kKE_1.f yS; omega) (by have := kKR_1.1 15 _ _ rfl; have := kKR_1.1 16 _ _ rfl; have := kKR_1.1 19 _ _ rfl; have := kKE_1.f yS; omega) I_1.start) rfl (Nat.le_of_ble_eq_true rfl) (Nat.le_of_ble_eq_true rfl) (Nat.le_of_ble_eq_true rfl) (hst := rfl) (fun b12r M13 n14 b12 => ?_)
            obtain ⟨T15, J16, rfl, R19, f20, f21⟩ := b12
            have I17 := I_1.call J16 (tm_sub (by decide)) (Or.inl rfl)
            have t22 := J16.up h_q0_1
            have E23 : rE M0 M13 o0 1 (i1_1.toInt + 0) := kKE_1.trans f20 (by decide) (yR.2 5 _ _ rfl 44).1 (by decide) (by omega)
            have := f20.w
            refine mv_iload_n d_TrustDeskModel_part_0_84 rfl rfl ?_
            have := mz_hi i1_1
            refine mv_if_eqZ (tgt := 94) (a := i1_1.toInt) d_TrustDeskModel_part_0_85 (by decide) rfl (fun b24 => ?_) (fun b24 => ?_)
            · exact mv_vret d_TrustDeskModel_part_0_94 rfl ⟨_, I17, rfl, R19, E23.less (by omega), (by have := R19.1 15 _ _ rfl; have := R19.1 16 _ _ rfl; have := R19.1 19 _ _ rfl; have := E23.f yS; omega)⟩
            · refine mv_aload_n d_TrustDeskModel_part_0_88 rfl rfl ?_
              refine mv_bipush (v := (-9)) d_TrustDeskModel_part_0_89 (by decide) ?_
              obtain ⟨_, b31, -⟩ := I17.1 _ _ t22
              refine mv_callV (kc' := 0) (ks' := 0) (As := [.int (-9)]) (st9 := [.int (-9), .ref o0]) d_TrustDeskModel_part_0_91 lV_TrustDeskModel_279 b31 rfl (tc_TrustDeskModel_emits_x (d := (d + 17)) (x9 := x9) (o0 := o0) (x1 := (-9)) t22 R19 (by have := R19.1 15 _ _ rfl; have := R19.1 16 _ _ rfl; have := R19.1 19 _ _ rfl; have := E23.f yS; omega) (by decide) I17.start) rfl (Nat.le_of_ble_eq_true rfl) (Nat.le_of_ble_eq_true rfl) (Nat.le_of_ble_eq_true rfl) (hst := rfl) (fun b25r M26 n27 b25 => ?_)
              obtain ⟨T28, J29, rfl, R32, f33⟩ := b25
              have I30 := I17.call J29 (tm_sub (by decide)) (Or.inl rfl)
              have t34 := J29.up t22
              have := (rv_c I17 J29 (I17.up h_o0) (k := 16) rfl)
              have := (rv_c I17 J29 (I17.up h_o0) (k := 17) rfl)
              have := (rv_c I17 J29 (I17.up h_o0) (k := 19) rfl)
              have := (rv_c I17 J29 (I17.up h_o0) (k := 22) rfl)
              have E35 : rE M0 M26 o0 1 (i1_1.toInt + (-1)) := E23.emit f33 (rE_hv I17 J29 (I17.up h_o0) 15 19 (by decide)) (yR.2 5 _ _ rfl 44).1 (by decide) (Or.inr (Or.inl ⟨by decide, by decide, by decide⟩)) (by omega)
              exact mv_vret d_TrustDeskModel_part_0_94 rfl ⟨_, I30, rfl, R32, E35.less (by omega), (by have := R32.1 15 _ _ rfl; have := R32.1 16 _ _ rfl; have := R32.1 19 _ _ rfl; have := E35.f yS; omega)⟩
          · refine mv_aload_n d_TrustDeskModel_isSign_8 rfl rfl ?_
            obtain ⟨v37, q36⟩ := tm_atI I_1 h_q0_1 (k := 18) rfl
            refine tr_getK q36 d_TrustDeskModel_isSign_9 f_TrustDeskModel_201_13 ?_
            have := kKR_1.f (k := 18) q36 rfl
            have := tm_rv q36
            refine mv_iload_n d_TrustDeskModel_isSign_12 rfl rfl ?_
            have := mz_hi v37
            refine mv_icmp_neZ (tgt := 20) (a := v37.toInt) (b := 91) d_TrustDeskModel_isSign_13 (by decide) rfl (by decide) (fun b38 => ?_) (fun b38 => ?_)
            · refine mv_iconst (v := 0) d_TrustDeskModel_isSign_20 (by decide) ?_
              refine mv_iret d_TrustDeskModel_isSign_21 rfl (by decide) ?_
              refine mv_if_eq_t (tgt := 80) d_TrustDeskModel_part_0_50 (by decide) (by decide) ?_
              refine mv_aload_n d_TrustDeskModel_part_0_80 rfl rfl ?_
              obtain ⟨_, b45, -⟩ := I_1.1 _ _ h_q0_1
              refine mv_callV (kc' := 0) (ks' := 0) (As := []) (st9 := [.ref o0]) d_TrustDeskModel_part_0_81 lV_TrustDeskModel_305 b45 rfl (tc_TrustDeskModel_compares_q4_x (d := d) (x9 := x9) (o0 := o0) h_q0_1 kKR_1 kKE_1.1 (by have := kKR_1.1 15 _ _ rfl; have := kKR_1.1 16 _ _ rfl; have := kKR_1.1 19 _ _ rfl; have := kKE_1.f yS; omega) (by have := kKR_1.1 15 _ _ rfl; have := kKR_1.1 16 _ _ rfl; have := kKR_1.1 19 _ _ rfl; have := kKE_1.f yS; omega) I_1.start) rfl (Nat.le_of_ble_eq_true rfl) (Nat.le_of_ble_eq_true rfl) (Nat.le_of_ble_eq_true rfl) (hst := rfl) (fun b39r M40 n41 b39 => ?_)
              obtain ⟨T42, J43, rfl, R46, f47, f48⟩ := b39
              have I44 := I_1.call J43 (tm_sub (by decide)) (Or.inl rfl)
              have t49 := J43.up h_q0_1
              have E50 : rE M0 M40 o0 1 (i1_1.toInt + 0) := kKE_1.trans f47 (by decide) (yR.2 5 _ _ rfl 44).1 (by decide) (by omega)
              have := f47.w
              refine mv_iload_n d_TrustDeskModel_part_0_84 rfl rfl ?_
              have := mz_hi i1_1
              refine mv_if_eqZ (tgt := 94) (a := i1_1.toInt) d_TrustDeskModel_part_0_85 (by decide) rfl (fun b51 => ?_) (fun b51 => ?_)
              · exact mv_vret d_TrustDeskModel_part_0_94 rfl ⟨_, I44, rfl, R46, E50.less (by omega), (by have := R46.1 15 _ _ rfl; have := R46.1 16 _ _ rfl; have := R46.1 19 _ _ rfl; have := E50.f yS; omega)⟩
              · refine mv_aload_n d_TrustDeskModel_part_0_88 rfl rfl ?_
                refine mv_bipush (v := (-9)) d_TrustDeskModel_part_0_89 (by decide) ?_
                obtain ⟨_, b58, -⟩ := I44.1 _ _ t49
                refine mv_callV (kc' := 0) (ks' := 0) (As := [.int (-9)]) (st9 := [.int (-9), .ref o0]) d_TrustDeskModel_part_0_91 lV_TrustDeskModel_279 b58 rfl (tc_TrustDeskModel_emits_x (d := (d + 17)) (x9 := x9) (o0 := o0) (x1 := (-9)) t49 R46 (by have := R46.1 15 _ _ rfl; have := R46.1 16 _ _ rfl; have := R46.1 19 _ _ rfl; have := E50.f yS; omega) (by decide) I44.start) rfl (Nat.le_of_ble_eq_true rfl) (Nat.le_of_ble_eq_true rfl) (Nat.le_of_ble_eq_true rfl) (hst := rfl) (fun b52r M53 n54 b52 => ?_)
                obtain ⟨T55, J56, rfl, R59, f60⟩ := b52
                have I57 := I44.call J56 (tm_sub (by decide)) (Or.inl rfl)
                have t61 := J56.up t49
                have := (rv_c I44 J56 (I44.up h_o0) (k := 16) rfl)
                have := (rv_c I44 J56 (I44.up h_o0) (k := 17) rfl)
                have := (rv_c I44 J56 (I44.up h_o0) (k := 19) rfl)
                have := (rv_c I44 J56 (I44.up h_o0) (k := 22) rfl)
                have E62 : rE M0 M53 o0 1 (i1_1.toInt + (-1)) := E50.emit f60 (rE_hv I44 J56 (I44.up h_o0) 15 19 (by decide)) (yR.2 5 _ _ rfl 44).1 (by decide) (Or.inr (Or.inl ⟨by decide, by decide, by decide⟩)) (by omega)
                exact mv_vret d_TrustDeskModel_part_0_94 rfl ⟨_, I57, rfl, R59, E62.less (by omega), (by have := R59.1 15 _ _ rfl; have := R59.1 16 _ _ rfl; have := R59.1 19 _ _ rfl; have := E62.f yS; omega)⟩
            · refine mv_iconst (v := 1) d_TrustDeskModel_isSign_16 (by decide) ?_
              refine mv_goto (tgt := 21) d_TrustDeskModel_isSign_17 (by decide) ?_
              refine mv_iret d_TrustDeskModel_isSign_21 rfl (by decide) ?_
              refine mv_if_eq_f (tgt := 80) d_TrustDeskModel_part_0_50 (by decide) (by decide) ?_
              refine mv_aload_n d_TrustDeskModel_part_0_53 rfl rfl ?_
              obtain ⟨_, b69, -⟩ := I_1.1 _ _ h_q0_1
              refine mv_callV (kc' := 0) (ks' := 0) (As := []) (st9 := [.ref o0]) d_TrustDeskModel_part_0_54 lV_TrustDeskModel_285 b69 rfl (tc_TrustDeskModel_opens_x (d := (d + 16)) (x9 := x9) (o0 := o0) h_q0_1 kKR_1 kKE_1.1 (by have := kKR_1.1 15 _ _ rfl; have := kKR_1.1 16 _ _ rfl; have := kKR_1.1 19 _ _ rfl; have := kKE_1.f yS; omega) (by have := kKR_1.1 15 _ _ rfl; have := kKR_1.1 16 _ _ rfl; have := kKR_1.1 19 _ _ rfl; have := kKE_1.f yS; omega) (by have := kKR_1.1 15 _ _ rfl; have := kKR_1.1 16 _ _ rfl; have := kKR_1.1 19 _ _ rfl; have := kKE_1.f yS; omega) I_1.start) rfl (Nat.le_of_ble_eq_true rfl) (Nat.le_of_ble_eq_true rfl) (Nat.le_of_ble_eq_true rfl) (hst := rfl) (fun b63r M64 n65 b63 => ?_)
              obtain ⟨T66, J67, rfl, R70, f71, f72⟩ := b63
              have I68 := I_1.call J67 (tm_sub (by decide)) (Or.inl rfl)
              have t73 := J67.up h_q0_1
              have E74 : rE M0 M64 o0 0 (i1_1.toInt + 1) := kKE_1.trans f71 (by decide) (yR.2 5 _ _ rfl 44).1 (by decide) (by omega)
              have := f71.w
              refine mv_aload_n d_TrustDeskModel_part_0_57 rfl rfl ?_
              obtain ⟨_, b81, -⟩ := I68.1 _ _ t73
              refine mv_callV (kc' := 0) (ks' := 0) (As := []) (st9 := [.ref o0]) d_TrustDeskModel_part_0_58 lV_TrustDeskModel_302 b81 rfl (tc_TrustDeskModel_cond_q3_x (d := d) (x9 := x9) (o0 := o0) t73 R70 E74.1 (by have := R70.1 15 _ _ rfl; have := R70.1 16 _ _ rfl; have := R70.1 19 _ _ rfl; have := E74.f yS; omega) (by have := R70.1 15 _ _ rfl; have := R70.1 16 _ _ rfl; have := R70.1 19 _ _ rfl; have := E74.f yS; omega) I68.start) rfl (Nat.le_of_ble_eq_true rfl) (Nat.le_of_ble_eq_true rfl) (Nat.le_of_ble_eq_true rfl) (hst := rfl) (fun b75r M76 n77 b75 => ?_)
              obtain ⟨T78, J79, rfl, R82, f83, f84⟩ := b75
              have I80 := I68.call J79 (tm_sub (by decide)) (Or.inl rfl)
              have t85 := J79.up t73
              have E86 : rE M0 M76 o0 1 (i1_1.toInt + 1) := E74.trans f83 (by decide) (yR.2 5 _ _ rfl 44).1 (by decide) (by omega)
              have := f83.w
              refine mv_aload_n d_TrustDeskModel_part_0_61 rfl rfl ?_
              refine mv_bipush (v := 93) d_TrustDeskModel_part_0_62 (by decide) ?_
              obtain ⟨_, b93, -⟩ := I80.1 _ _ t85
              refine mv_callV (kc' := 0) (ks' := 0) (As := [.int 93]) (st9 := [.int 93, .ref o0]) d_TrustDeskModel_part_0_64 lV_TrustDeskModel_291 b93 rfl (tc_TrustDeskModel_wantSign_x (d := (d + 16)) (x9 := x9) (o0 := o0) (x1 := 93) t85 R82 E86.1 (by have := R82.1 15 _ _ rfl; have := R82.1 16 _ _ rfl; have := R82.1 19 _ _ rfl; have := E86.f yS; omega) I80.start) rfl (Nat.le_of_ble_eq_true rfl) (Nat.le_of_ble_eq_true rfl) (Nat.le_of_ble_eq_true rfl) (hst := rfl) (fun b87r M88 n89 b87 => ?_)
              obtain ⟨T90, J91, rfl, R94, f95⟩ := b87
              have I92 := I80.call J91 (tm_sub (by decide)) (Or.inl rfl)
              have t96 := J91.up t85
              have := (rv_c I80 J91 (I80.up h_o0) (k := 22) rfl)
              have E97 : rE M0 M88 o0 1 (i1_1.toInt + 2) := E86.trans f95 (by decide) (yR.2 5 _ _ rfl 44).1 (by decide) (by omega)
              have := f95.w
              refine mv_aload_n d_TrustDeskModel_part_0_67 rfl rfl ?_
              refine mv_dup d_TrustDeskModel_part_0_68 rfl ?_
              obtain ⟨v99, q98⟩ := tm_atI I92 t96 (k := 22) rfl
              refine tr_getK q98 d_TrustDeskModel_part_0_69 f_TrustDeskModel_276_13 ?_
              have := tm_rv q98
              refine mv_iconst (v := 1) d_TrustDeskModel_part_0_72 (by decide) ?_
              refine mv_isub d_TrustDeskModel_part_0_73 ?_
              have : rv M88 o0 19 = 0 → (v99 - 1 : Int32).toInt = v99.toInt - 1 := fun h9 => mz_sub2 rfl (by decide) (by omega) (by omega)
              refine tr_putR (k := 22) I92 R94 t96 rfl ⟨_, rfl⟩ (fun _ h => by cases h) rfl (fun lo hi h => by cases h) (Or.inl (by decide)) d_TrustDeskModel_part_0_74 p_TrustDeskModel_276_13 rfl rfl (fun M100 I101 q102 K103 R104 A105 V106 => ?_)
              have := V106 16 (by decide)
              have := V106 17 (by decide)
              have := V106 19 (by decide)
              have := tm_rv q102
              have E107 : rE M0 M100 o0 1 (i1_1.toInt + 2) := E97.same (fun k h1 h2 => V106 k (by omega)) (fun k h1 h2 => A105 k (by omega))
              refine mv_goto (tgt := 84) d_TrustDeskModel_part_0_77 (by decide) ?_
              refine mv_iload_n d_TrustDeskModel_part_0_84 rfl rfl ?_
              have := mz_hi i1_1
              refine mv_if_eqZ (tgt := 94) (a := i1_1.toInt) d_TrustDeskModel_part_0_85 (by decide) rfl (fun b108 => ?_) (fun b108 => ?_)
              · exact mv_vret d_TrustDeskModel_part_0_94 rfl ⟨_, I101, rfl, R104, E107.less (by omega), (by have := R104.1 15 _ _ rfl; have := R104.1 16 _ _ rfl; have := R104.1 19 _ _ rfl; have := E107.f yS; omega)⟩
              · refine mv_aload_n d_TrustDeskModel_part_0_88 rfl rfl ?_
                refine mv_bipush (v := (-9)) d_TrustDeskModel_part_0_89 (by decide) ?_
                obtain ⟨_, b115, -⟩ := I101.1 _ _ t96
                refine mv_callV (kc' := 0) (ks' := 0) (As := [.int (-9)]) (st9 := [.int (-9), .ref o0]) d_TrustDeskModel_part_0_91 lV_TrustDeskModel_279 b115 rfl (tc_TrustDeskModel_emits_x (d := (d + 17)) (x9 := x9) (o0 := o0) (x1 := (-9)) t96 R104 (by have := R104.1 15 _ _ rfl; have := R104.1 16 _ _ rfl; have := R104.1 19 _ _ rfl; have := E107.f yS; omega) (by decide) I101.start) rfl (Nat.le_of_ble_eq_true rfl) (Nat.le_of_ble_eq_true rfl) (Nat.le_of_ble_eq_true rfl) (hst := rfl) (fun b109r M110 n111 b109 => ?_)
                obtain ⟨T112, J113, rfl, R116, f117⟩ := b109
                have I114 := I101.call J113 (tm_sub (by decide)) (Or.inl rfl)
                have t118 := J113.up t96
                have := (rv_c I101 J113 (I101.up h_o0) (k := 16) rfl)
                have := (rv_c I101 J113 (I101.up h_o0) (k := 17) rfl)
                have := (rv_c I101 J113 (I101.up h_o0) (k := 19) rfl)
                have := (rv_c I101 J113 (I101.up h_o0) (k := 22) rfl)
                have E119 : rE M0 M110 o0 1 (i1_1.toInt + 1) := E107.emit f117 (rE_hv I101 J113 (I101.up h_o0) 15 19 (by decide)) (yR.2 5 _ _ rfl 44).1 (by decide) (Or.inr (Or.inl ⟨by decide, by decide, by decide⟩)) (by omega)
                have q120 := J113.keep t96 (by decide) q102
                exact mv_vret d_TrustDeskModel_part_0_94 rfl ⟨_, I114, rfl, R116, E119.less (by omega), (by have := R116.1 15 _ _ rfl; have := R116.1 16 _ _ rfl; have := R116.1 19 _ _ rfl; have := E119.f yS; omega)⟩
      · refine mv_iconst (v := 1) d_TrustDeskModel_isWell_7 (by decide) ?_
        refine mv_goto (tgt := 12) d_TrustDeskModel_isWell_8 (by decide) ?_
        refine mv_iret d_TrustDeskModel_isWell_12 rfl (by decide) ?_
        refine mv_if_eq_f (tgt := 36) d_TrustDeskModel_part_0_6 (by decide) (by decide) ?_
        refine mv_aload_n d_TrustDeskModel_part_0_9 rfl rfl ?_
        refine mv_ldcSw (id := 26) (tx := "not") d_TrustDeskModel_part_0_10 (List.mem_of_getElem? (i := 16) rfl) ?_
        obtain ⟨_, b127, -⟩ := I_1.1 _ _ h_q0_1
        refine mv_callV (kc' := 0) (ks' := 0) (As := [.ref 26]) (st9 := [.ref 26, .ref o0]) d_TrustDeskModel_part_0_13 lV_TrustDeskModel_244 b127 rfl (tc_TrustDeskModel_isWord_s1_26_x (d := (d + 14)) (x9 := x9) (o0 := o0) h_q0_1 kKR_1 I_1.start) rfl (Nat.le_of_ble_eq_true rfl) (Nat.le_of_ble_eq_true rfl) (Nat.le_of_ble_eq_true rfl) (hst := rfl) (fun b121r M122 n123 b121 => ?_)
        obtain ⟨T124, J125, v128, rfl, b129, b130, R131, f132⟩ := b121
        have I126 := I_1.call J125 (tm_sub (by decide)) (Or.inl rfl)
        have t133 := J125.up h_q0_1
        have := (rv_c I_1 J125 (I_1.up h_o0) (k := 16) rfl)
        have := (rv_c I_1 J125 (I_1.up h_o0) (k := 17) rfl)
        have := (rv_c I_1 J125 (I_1.up h_o0) (k := 19) rfl)
        have := (rv_c I_1 J125 (I_1.up h_o0) (k := 22) rfl)
        have E134 : rE M0 M122 o0 0 i1_1.toInt := kKE_1.same (rE_hv I_1 J125 (I_1.up h_o0) 15 19 (by decide)) (rE_ha I_1 J125 (I_1.up h_o0) (by decide))
        have q135 := J125.keep h_q0_1 (by decide) q3
        have := mz_hi v128
        refine mv_if_eqZ (tgt := 36) (a := v128.toInt) d_TrustDeskModel_part_0_16 (by decide) rfl (fun b136 => ?_) (fun b136 => ?_)
        · refine mv_aload_n d_TrustDeskModel_part_0_36 rfl rfl ?_
          obtain ⟨_, b137, -⟩ := I126.1 _ _ t133
          refine mv_callV (kc1 := 0) (ks1 := 0) (kc' := 0) (ks' := 0) (As := []) (st9 := [.ref o0]) d_TrustDeskModel_part_0_37 lV_TrustDeskModel_230 b137 rfl (mj_enter (by decide) (Nat.le_of_ble_eq_true rfl) ?_) rfl (Nat.le_of_ble_eq_true rfl) (Nat.le_of_ble_eq_true rfl) (Nat.le_of_ble_eq_true rfl) (hst := rfl) (fun _ _ _ h => h)
          refine mv_aload_n d_TrustDeskModel_isWell_0 rfl rfl ?_
          refine tr_getK (k := 19) q135 d_TrustDeskModel_isWell_1 f_TrustDeskModel_224_13 ?_
          have := mz_hi v4
          refine mv_if_neZ (tgt := 11) (a := v4.toInt) d_TrustDeskModel_isWell_4 (by decide) rfl (fun b138 => absurd b138 (by omega)) (fun b138 => ?_)
          refine mv_iconst (v := 1) d_TrustDeskModel_isWell_7 (by decide) ?_
          refine mv_goto (tgt := 12) d_TrustDeskModel_isWell_8 (by decide) ?_
          refine mv_iret d_TrustDeskModel_isWell_12 rfl (by decide) ?_
          refine mv_if_ne_t (tgt := 44) d_TrustDeskModel_part_0_40 (by decide) (by decide) ?_
          refine mv_aload_n d_TrustDeskModel_part_0_44 rfl rfl ?_
          refine mv_bipush (v := 91) d_TrustDeskModel_part_0_45 (by decide) ?_
          obtain ⟨_, b139, -⟩ := I126.1 _ _ t133
          refine mv_callV (kc1 := 0) (ks1 := 0) (kc' := 0) (ks' := 0) (As := [.int 91]) (st9 := [.int 91, .ref o0]) d_TrustDeskModel_part_0_47 lV_TrustDeskModel_234 b139 rfl (mj_enter (by decide) (Nat.le_of_ble_eq_true rfl) ?_) rfl (Nat.le_of_ble_eq_true rfl) (Nat.le_of_ble_eq_true rfl) (Nat.le_of_ble_eq_true rfl) (hst := rfl) (fun _ _ _ h => h)
          refine mv_aload_n d_TrustDeskModel_isSign_0 rfl rfl ?_
          obtain ⟨v141, q140⟩ := tm_atI I126 t133 (k := 17) rfl
          refine tr_getK q140 d_TrustDeskModel_isSign_1 f_TrustDeskModel_198_13 ?_
          have := tm_rv q140
          refine mv_iconst (v := 4) d_TrustDeskModel_isSign_4 (by decide) ?_
          have := mz_hi v141
          refine mv_icmp_neZ (tgt := 20) (a := v141.toInt) (b := 4) d_TrustDeskModel_isSign_5 (by decide) rfl (by decide) (fun b142 => ?_) (fun b142 => ?_)
          · refine mv_iconst (v := 0) d_TrustDeskModel_isSign_20 (by decide) ?_
            refine mv_iret d_TrustDeskModel_isSign_21 rfl (by decide) ?_
            refine mv_if_eq_t (tgt := 80) d_TrustDeskModel_part_0_50 (by decide) (by decide) ?_
            refine mv_aload_n d_TrustDeskModel_part_0_80 rfl rfl ?_
            obtain ⟨_, b149, -⟩ := I126.1 _ _ t133
            refine mv_callV (kc' := 0) (ks' := 0) (As := []) (st9 := [.ref o0]) d_TrustDeskModel_part_0_81 lV_TrustDeskModel_305 b149 rfl (tc_TrustDeskModel_compares_q4_x (d := d) (x9 := x9) (o0 := o0) t133 R131 E134.1 (by have := R131.1 15 _ _ rfl; have := R131.1 16 _ _ rfl; have := R131.1 19 _ _ rfl; have := E134.f yS; omega) (by have := R131.1 15 _ _ rfl; have := R131.1 16 _ _ rfl; have := R131.1 19 _ _ rfl; have := E134.f yS; omega) I126.start) rfl (Nat.le_of_ble_eq_true rfl) (Nat.le_of_ble_eq_true rfl) (Nat.le_of_ble_eq_true rfl) (hst := rfl) (fun b143r M144 n145 b143 => ?_)
            obtain ⟨T146, J147, rfl, R150, f151, f152⟩ := b143
            have I148 := I126.call J147 (tm_sub (by decide)) (Or.inl rfl)
            have t153 := J147.up t133
            have E154 : rE M0 M144 o0 1 (i1_1.toInt + 0) := E134.trans f151 (by decide) (yR.2 5 _ _ rfl 44).1 (by decide) (by omega)
            have := f151.w
            refine mv_iload_n d_TrustDeskModel_part_0_84 rfl rfl ?_
            have := mz_hi i1_1
            refine mv_if_eqZ (tgt := 94) (a := i1_1.toInt) d_TrustDeskModel_part_0_85 (by decide) rfl (fun b155 => ?_) (fun b155 => ?_)
            · exact mv_vret d_TrustDeskModel_part_0_94 rfl ⟨_, I148, rfl, R150, E154.less (by omega), (by have := R150.1 15 _ _ rfl; have := R150.1 16 _ _ rfl; have := R150.1 19 _ _ rfl; have := E154.f yS; omega)⟩
            · refine mv_aload_n d_TrustDeskModel_part_0_88 rfl rfl ?_
              refine mv_bipush (v := (-9)) d_TrustDeskModel_part_0_89 (by decide) ?_
              obtain ⟨_, b162, -⟩ := I148.1 _ _ t153
              refine mv_callV (kc' := 0) (ks' := 0) (As := [.int (-9)]) (st9 := [.int (-9), .ref o0]) d_TrustDeskModel_part_0_91 lV_TrustDeskModel_279 b162 rfl (tc_TrustDeskModel_emits_x (d := (d + 17)) (x9 := x9) (o0 := o0) (x1 := (-9)) t153 R150 (by have := R150.1 15 _ _ rfl; have := R150.1 16 _ _ rfl; have := R150.1 19 _ _ rfl; have := E154.f yS; omega) (by decide) I148.start) rfl (Nat.le_of_ble_eq_true rfl) (Nat.le_of_ble_eq_true rfl) (Nat.le_of_ble_eq_true rfl) (hst := rfl) (fun b156r M157 n158 b156 => ?_)
              obtain ⟨T159, J160, rfl, R163, f164⟩ := b156
              have I161 := I148.call J160 (tm_sub (by decide)) (Or.inl rfl)
              have t165 := J160.up t153
              have := (rv_c I148 J160 (I148.up h_o0) (k := 16) rfl)
              have := (rv_c I148 J160 (I148.up h_o0) (k := 17) rfl)
              have := (rv_c I148 J160 (I148.up h_o0) (k := 19) rfl)
              have := (rv_c I148 J160 (I148.up h_o0) (k := 22) rfl)
              have E166 : rE M0 M157 o0 1 (i1_1.toInt + (-1)) := E154.emit f164 (rE_hv I148 J160 (I148.up h_o0) 15 19 (by decide)) (yR.2 5 _ _ rfl 44).1 (by decide) (Or.inr (Or.inl ⟨by decide, by decide, by decide⟩)) (by omega)
              exact mv_vret d_TrustDeskModel_part_0_94 rfl ⟨_, I161, rfl, R163, E166.less (by omega), (by have := R163.1 15 _ _ rfl; have := R163.1 16 _ _ rfl; have := R163.1 19 _ _ rfl; have := E166.f yS; omega)⟩
          · refine mv_aload_n d_TrustDeskModel_isSign_8 rfl rfl ?_
            obtain ⟨v168, q167⟩ := tm_atI I126 t133 (k := 18) rfl
            refine tr_getK q167 d_TrustDeskModel_isSign_9 f_TrustDeskModel_201_13 ?_
            have := R131.f (k := 18) q167 rfl
            have := tm_rv q167
            refine mv_iload_n d_TrustDeskModel_isSign_12 rfl rfl ?_
            have := mz_hi v168
            refine mv_icmp_neZ (tgt := 20) (a := v168.toInt) (b := 91) d_TrustDeskModel_isSign_13 (by decide) rfl (by decide) (fun b169 => ?_) (fun b169 => ?_)
            · refine mv_iconst (v := 0) d_TrustDeskModel_isSign_20 (by decide) ?_
              refine mv_iret d_TrustDeskModel_isSign_21 rfl (by decide) ?_
              refine mv_if_eq_t (tgt := 80) d_TrustDeskModel_part_0_50 (by decide) (by decide) ?_
              refine mv_aload_n d_TrustDeskModel_part_0_80 rfl rfl ?_
              obtain ⟨_, b176, -⟩ := I126.1 _ _ t133
              refine mv_callV (kc' := 0) (ks' := 0) (As := []) (st9 := [.ref o0]) d_TrustDeskModel_part_0_81 lV_TrustDeskModel_305 b176 rfl (tc_TrustDeskModel_compares_q4_x (d := d) (x9 := x9) (o0 := o0) t133 R131 E134.1 (by have := R131.1 15 _ _ rfl; have := R131.1 16 _ _ rfl; have := R131.1 19 _ _ rfl; have := E134.f yS; omega) (by have := R131.1 15 _ _ rfl; have := R131.1 16 _ _ rfl; have := R131.1 19 _ _ rfl; have := E134.f yS; omega) I126.start) rfl (Nat.le_of_ble_eq_true rfl) (Nat.le_of_ble_eq_true rfl) (Nat.le_of_ble_eq_true rfl) (hst := rfl) (fun b170r M171 n172 b170 => ?_)
              obtain ⟨T173, J174, rfl, R177, f178, f179⟩ := b170
              have I175 := I126.call J174 (tm_sub (by decide)) (Or.inl rfl)
              have t180 := J174.up t133
              have E181 : rE M0 M171 o0 1 (i1_1.toInt + 0) := E134.trans f178 (by decide) (yR.2 5 _ _ rfl 44).1 (by decide) (by omega)
              have := f178.w
              refine mv_iload_n d_TrustDeskModel_part_0_84 rfl rfl ?_
              have := mz_hi i1_1
              refine mv_if_eqZ (tgt := 94) (a := i1_1.toInt) d_TrustDeskModel_part_0_85 (by decide) rfl (fun b182 => ?_) (fun b182 => ?_)
              · exact mv_vret d_TrustDeskModel_part_0_94 rfl ⟨_, I175, rfl, R177, E181.less (by omega), (by have := R177.1 15 _ _ rfl; have := R177.1 16 _ _ rfl; have := R177.1 19 _ _ rfl; have := E181.f yS; omega)⟩
              · refine mv_aload_n d_TrustDeskModel_part_0_88 rfl rfl ?_
                refine mv_bipush (v := (-9)) d_TrustDeskModel_part_0_89 (by decide) ?_
                obtain ⟨_, b189, -⟩ := I175.1 _ _ t180
                refine mv_callV (kc' := 0) (ks' := 0) (As := [.int (-9)]) (st9 := [.int (-9), .ref o0]) d_TrustDeskModel_part_0_91 lV_TrustDeskModel_279 b189 rfl (tc_TrustDeskModel_emits_x (d := (d + 17)) (x9 := x9) (o0 := o0) (x1 := (-9)) t180 R177 (by have := R177.1 15 _ _ rfl; have := R177.1 16 _ _ rfl; have := R177.1 19 _ _ rfl; have := E181.f yS; omega) (by decide) I175.start) rfl (Nat.le_of_ble_eq_true rfl) (Nat.le_of_ble_eq_true rfl) (Nat.le_of_ble_eq_true rfl) (hst := rfl) (fun b183r M184 n185 b183 => ?_)
                obtain ⟨T186, J187, rfl, R190, f191⟩ := b183
                have I188 := I175.call J187 (tm_sub (by decide)) (Or.inl rfl)
                have t192 := J187.up t180
                have := (rv_c I175 J187 (I175.up h_o0) (k := 16) rfl)
                have := (rv_c I175 J187 (I175.up h_o0) (k := 17) rfl)
                have := (rv_c I175 J187 (I175.up h_o0) (k := 19) rfl)
                have := (rv_c I175 J187 (I175.up h_o0) (k := 22) rfl)
                have E193 : rE M0 M184 o0 1 (i1_1.toInt + (-1)) := E181.emit f191 (rE_hv I175 J187 (I175.up h_o0) 15 19 (by decide)) (yR.2 5 _ _ rfl 44).1 (by decide) (Or.inr (Or.inl ⟨by decide, by decide, by decide⟩)) (by omega)
                exact mv_vret d_TrustDeskModel_part_0_94 rfl ⟨_, I188, rfl, R190, E193.less (by omega), (by have := R190.1 15 _ _ rfl; have := R190.1 16 _ _ rfl; have := R190.1 19 _ _ rfl; have := E193.f yS; omega)⟩
            · refine mv_iconst (v := 1) d_TrustDeskModel_isSign_16 (by decide) ?_
              refine mv_goto (tgt := 21) d_TrustDeskModel_isSign_17 (by decide) ?_
              refine mv_iret d_TrustDeskModel_isSign_21 rfl (by decide) ?_
              refine mv_if_eq_f (tgt := 80) d_TrustDeskModel_part_0_50 (by decide) (by decide) ?_
              refine mv_aload_n d_TrustDeskModel_part_0_53 rfl rfl ?_
              obtain ⟨_, b200, -⟩ := I126.1 _ _ t133
              refine mv_callV (kc' := 0) (ks' := 0) (As := []) (st9 := [.ref o0]) d_TrustDeskModel_part_0_54 lV_TrustDeskModel_285 b200 rfl (tc_TrustDeskModel_opens_x (d := (d + 16)) (x9 := x9) (o0 := o0) t133 R131 E134.1 (by have := R131.1 15 _ _ rfl; have := R131.1 16 _ _ rfl; have := R131.1 19 _ _ rfl; have := E134.f yS; omega) (by have := R131.1 15 _ _ rfl; have := R131.1 16 _ _ rfl; have := R131.1 19 _ _ rfl; have := E134.f yS; omega) (by have := R131.1 15 _ _ rfl; have := R131.1 16 _ _ rfl; have := R131.1 19 _ _ rfl; have := E134.f yS; omega) I126.start) rfl (Nat.le_of_ble_eq_true rfl) (Nat.le_of_ble_eq_true rfl) (Nat.le_of_ble_eq_true rfl) (hst := rfl) (fun b194r M195 n196 b194 => ?_)
              obtain ⟨T197, J198, rfl, R201, f202, f203⟩ := b194
              have I199 := I126.call J198 (tm_sub (by decide)) (Or.inl rfl)
              have t204 := J198.up t133
              have E205 : rE M0 M195 o0 0 (i1_1.toInt + 1) := E134.trans f202 (by decide) (yR.2 5 _ _ rfl 44).1 (by decide) (by omega)
              have := f202.w
              refine mv_aload_n d_TrustDeskModel_part_0_57 rfl rfl ?_
              obtain ⟨_, b212, -⟩ := I199.1 _ _ t204
              refine mv_callV (kc' := 0) (ks' := 0) (As := []) (st9 := [.ref o0]) d_TrustDeskModel_part_0_58 lV_TrustDeskModel_302 b212 rfl (tc_TrustDeskModel_cond_q3_x (d := d) (x9 := x9) (o0 := o0) t204 R201 E205.1 (by have := R201.1 15 _ _ rfl; have := R201.1 16 _ _ rfl; have := R201.1 19 _ _ rfl; have := E205.f yS; omega) (by have := R201.1 15 _ _ rfl; have := R201.1 16 _ _ rfl; have := R201.1 19 _ _ rfl; have := E205.f yS; omega) I199.start) rfl (Nat.le_of_ble_eq_true rfl) (Nat.le_of_ble_eq_true rfl) (Nat.le_of_ble_eq_true rfl) (hst := rfl) (fun b206r M207 n208 b206 => ?_)
              obtain ⟨T209, J210, rfl, R213, f214, f215⟩ := b206
              have I211 := I199.call J210 (tm_sub (by decide)) (Or.inl rfl)
              have t216 := J210.up t204
              have E217 : rE M0 M207 o0 1 (i1_1.toInt + 1) := E205.trans f214 (by decide) (yR.2 5 _ _ rfl 44).1 (by decide) (by omega)
              have := f214.w
              refine mv_aload_n d_TrustDeskModel_part_0_61 rfl rfl ?_
              refine mv_bipush (v := 93) d_TrustDeskModel_part_0_62 (by decide) ?_
              obtain ⟨_, b224, -⟩ := I211.1 _ _ t216
              refine mv_callV (kc' := 0) (ks' := 0) (As := [.int 93]) (st9 := [.int 93, .ref o0]) d_TrustDeskModel_part_0_64 lV_TrustDeskModel_291 b224 rfl (tc_TrustDeskModel_wantSign_x (d := (d + 16)) (x9 := x9) (o0 := o0) (x1 := 93) t216 R213 E217.1 (by have := R213.1 15 _ _ rfl; have := R213.1 16 _ _ rfl; have := R213.1 19 _ _ rfl; have := E217.f yS; omega) I211.start) rfl (Nat.le_of_ble_eq_true rfl) (Nat.le_of_ble_eq_true rfl) (Nat.le_of_ble_eq_true rfl) (hst := rfl) (fun b218r M219 n220 b218 => ?_)
              obtain ⟨T221, J222, rfl, R225, f226⟩ := b218
              have I223 := I211.call J222 (tm_sub (by decide)) (Or.inl rfl)
              have t227 := J222.up t216
              have := (rv_c I211 J222 (I211.up h_o0) (k := 22) rfl)
              have E228 : rE M0 M219 o0 1 (i1_1.toInt + 2) := E217.trans f226 (by decide) (yR.2 5 _ _ rfl 44).1 (by decide) (by omega)
              have := f226.w
              refine mv_aload_n d_TrustDeskModel_part_0_67 rfl rfl ?_
              refine mv_dup d_TrustDeskModel_part_0_68 rfl ?_
              obtain ⟨v230, q229⟩ := tm_atI I223 t227 (k := 22) rfl
              refine tr_getK q229 d_TrustDeskModel_part_0_69 f_TrustDeskModel_276_13 ?_
              have := tm_rv q229
              refine mv_iconst (v := 1) d_TrustDeskModel_part_0_72 (by decide) ?_
              refine mv_isub d_TrustDeskModel_part_0_73 ?_
              have : rv M219 o0 19 = 0 → (v230 - 1 : Int32).toInt = v230.toInt - 1 := fun h9 => mz_sub2 rfl (by decide) (by omega) (by omega)
              refine tr_putR (k := 22) I223 R225 t227 rfl ⟨_, rfl⟩ (fun _ h => by cases h) rfl (fun lo hi h => by cases h) (Or.inl (by decide)) d_TrustDeskModel_part_0_74 p_TrustDeskModel_276_13 rfl rfl (fun M231 I232 q233 K234 R235 A236 V237 => ?_)
              have := V237 16 (by decide)
              have := V237 17 (by decide)
              have := V237 19 (by decide)
              have := tm_rv q233
              have E238 : rE M0 M231 o0 1 (i1_1.toInt + 2) := E228.same (fun k h1 h2 => V237 k (by omega)) (fun k h1 h2 => A236 k (by omega))
              refine mv_goto (tgt := 84) d_TrustDeskModel_part_0_77 (by decide) ?_
              refine mv_iload_n d_TrustDeskModel_part_0_84 rfl rfl ?_
              have := mz_hi i1_1
              refine mv_if_eqZ (tgt := 94) (a := i1_1.toInt) d_TrustDeskModel_part_0_85 (by decide) rfl (fun b239 => ?_) (fun b239 => ?_)
              · exact mv_vret d_TrustDeskModel_part_0_94 rfl ⟨_, I232, rfl, R235, E238.less (by omega), (by have := R235.1 15 _ _ rfl; have := R235.1 16 _ _ rfl; have := R235.1 19 _ _ rfl; have := E238.f yS; omega)⟩
              · refine mv_aload_n d_TrustDeskModel_part_0_88 rfl rfl ?_
                refine mv_bipush (v := (-9)) d_TrustDeskModel_part_0_89 (by decide) ?_
                obtain ⟨_, b246, -⟩ := I232.1 _ _ t227
                refine mv_callV (kc' := 0) (ks' := 0) (As := [.int (-9)]) (st9 := [.int (-9), .ref o0]) d_TrustDeskModel_part_0_91 lV_TrustDeskModel_279 b246 rfl (tc_TrustDeskModel_emits_x (d := (d + 17)) (x9 := x9) (o0 := o0) (x1 := (-9)) t227 R235 (by have := R235.1 15 _ _ rfl; have := R235.1 16 _ _ rfl; have := R235.1 19 _ _ rfl; have := E238.f yS; omega) (by decide) I232.start) rfl (Nat.le_of_ble_eq_true rfl) (Nat.le_of_ble_eq_true rfl) (Nat.le_of_ble_eq_true rfl) (hst := rfl) (fun b240r M241 n242 b240 => ?_)
                obtain ⟨T243, J244, rfl, R247, f248⟩ := b240
                have I245 := I232.call J244 (tm_sub (by decide)) (Or.inl rfl)
                have t249 := J244.up t227
                have := (rv_c I232 J244 (I232.up h_o0) (k := 16) rfl)
                have := (rv_c I232 J244 (I232.up h_o0) (k := 17) rfl)
                have := (rv_c I232 J244 (I232.up h_o0) (k := 19) rfl)
                have := (rv_c I232 J244 (I232.up h_o0) (k := 22) rfl)
                have E250 : rE M0 M241 o0 1 (i1_1.toInt + 1) := E238.emit f248 (rE_hv I232 J244 (I232.up h_o0) 15 19 (by decide)) (yR.2 5 _ _ rfl 44).1 (by decide) (Or.inr (Or.inl ⟨by decide, by decide, by decide⟩)) (by omega)
                have q251 := J244.keep t227 (by decide) q233
                exact mv_vret d_TrustDeskModel_part_0_94 rfl ⟨_, I245, rfl, R247, E250.less (by omega), (by have := R247.1 15 _ _ rfl; have := R247.1 16 _ _ rfl; have := R247.1 19 _ _ rfl; have := E250.f yS; omega)⟩
        · refine mv_aload_n d_TrustDeskModel_part_0_19 rfl rfl ?_
          obtain ⟨_, b258, -⟩ := I126.1 _ _ t133
          refine mv_callV (kc' := 0) (ks' := 0) (As := []) (st9 := [.ref o0]) d_TrustDeskModel_part_0_20 lV_TrustDeskModel_237 b258 rfl (tc_TrustDeskModel_next_x (d := (d + 17)) (x9 := x9) (o0 := o0) t133 R131 I126.start) rfl (Nat.le_of_ble_eq_true rfl) (Nat.le_of_ble_eq_true rfl) (Nat.le_of_ble_eq_true rfl) (hst := rfl) (fun b252r M253 n254 b252 => ?_)
          obtain ⟨T255, J256, rfl, R259, f260, f261⟩ := b252
          have I257 := I126.call J256 (tm_sub (by decide)) (Or.inl rfl)
          have t262 := J256.up t133
          have := (rv_c I126 J256 (I126.up h_o0) (k := 19) rfl)
          have := (rv_c I126 J256 (I126.up h_o0) (k := 22) rfl)
          have h264 : rv M122 o0 16 + 1 ≤ rv M122 o0 15 := (by have := R131.1 15 _ _ rfl; have := R131.1 16 _ _ rfl; have := R131.1 19 _ _ rfl; have := E134.f yS; omega)
          have E263 : rE M0 M253 o0 0 (i1_1.toInt + 1) := E134.next f260 f261 (rv_c I126 J256 (I126.up h_o0) (k := 19) rfl) (rE_ha I126 J256 (I126.up h_o0) (by decide)) (e := 1) h264 (by omega)
          have q265 := J256.keep t133 (by decide) q135
          refine mv_iload_n d_TrustDeskModel_part_0_23 rfl rfl ?_
          have := mz_hi i1_1
          refine mv_if_neZ (tgt := 31) (a := i1_1.toInt) d_TrustDeskModel_part_0_24 (by decide) rfl (fun b266 => ?_) (fun b266 => ?_)
          · refine mv_iconst (v := 0) d_TrustDeskModel_part_0_31 (by decide) ?_
            refine mv_istore_n (lv' := [(1, .int 0), (0, .ref o0)]) d_TrustDeskModel_part_0_32 rfl (by decide) rfl ?_
            refine mv_goto (tgt := 2) d_TrustDeskModel_part_0_33 (by decide) ?_
            have E267 : rE M0 M253 o0 0 0 := E263.less (by omega)
            exact (ih1 0 T255 M253 n254 I257 t262 (by have := R259.1 15 _ _ rfl; have := R259.1 16 _ _ rfl; have := R259.1 19 _ _ rfl; have := E267.f yS; first | omega | decide) (by have := R259.1 15 _ _ rfl; have := R259.1 16 _ _ rfl; have := R259.1 19 _ _ rfl; have := E267.f yS; first | omega | decide) (by have := R259.1 15 _ _ rfl; have := R259.1 16 _ _ rfl; have := R259.1 19 _ _ rfl; have := E267.f yS; first | omega | decide) R259 E267 (by have := R259.1 15 _ _ rfl; have := R259.1 16 _ _ rfl; have := R259.1 19 _ _ rfl; have := E267.f yS; omega))
          · refine mv_iconst (v := 1) d_TrustDeskModel_part_0_27 (by decide) ?_
            refine mv_goto (tgt := 32) d_TrustDeskModel_part_0_28 (by decide) ?_
            refine mv_istore_n (lv' := [(1, .int 1), (0, .ref o0)]) d_TrustDeskModel_part_0_32 rfl (by decide) rfl ?_
            refine mv_goto (tgt := 2) d_TrustDeskModel_part_0_33 (by decide) ?_
            have E268 : rE M0 M253 o0 0 1 := E263.less (by omega)
            exact (ih1 1 T255 M253 n254 I257 t262 (by have := R259.1 15 _ _ rfl; have := R259.1 16 _ _ rfl; have := R259.1 19 _ _ rfl; have := E268.f yS; first | omega | decide) (by have := R259.1 15 _ _ rfl; have := R259.1 16 _ _ rfl; have := R259.1 19 _ _ rfl; have := E268.f yS; first | omega | decide) (by have := R259.1 15 _ _ rfl; have := R259.1 16 _ _ rfl; have := R259.1 19 _ _ rfl; have := E268.f yS; first | omega | decide) R259 E268 (by have := R259.1 15 _ _ rfl; have := R259.1 16 _ _ rfl; have := R259.1 19 _ _ rfl; have := E268.f yS; omega))
  exact mv_less (Nat.zero_le _) (Nat.zero_le _) (L2_1 4294967296 0 T0 M0 n0 I0 h_o0 (by have := yR.1 15 _ _ rfl; have := yR.1 16 _ _ rfl; have := yR.1 19 _ _ rfl; have := yE0.f yS; first | omega | decide) (by have := yR.1 15 _ _ rfl; have := yR.1 16 _ _ rfl; have := yR.1 19 _ _ rfl; have := yE0.f yS; first | omega | decide) (by have := yR.1 15 _ _ rfl; have := yR.1 16 _ _ rfl; have := yR.1 19 _ _ rfl; have := yE0.f yS; first | omega | decide) yR yE0 (by have := yR.1 15 _ _ rfl; have := yR.1 16 _ _ rfl; have := yR.1 19 _ _ rfl; have := yE0.f yS; omega))
def w_TrustDeskModel_both_q4_x : List Nat := [1315, 1316, 1317, 1318, 1319, 1320, 1322, 20004, 20005]
theorem tc_TrustDeskModel_both_q4_x {g : mj_G} {l : Launch} {d : Nat} {T0 : tm_H} {M0 : mj_M} {n0 x9 : Nat} {o0 : Nat} (h_o0 : T0 o0 = some (0, 13, 0)) (yR : rI M0 o0) (yT : rT M0 o0) (yS : rv M0 o0 19 = 0 → ra M0 o0 5 44 ≤ rv M0 o0 16) (yL : rv M0 o0 19 ≠ 0 ∨ (1 ≤ rv M0 o0 22 ∧ rv M0 o0 22 ≤ 4)) (I0 : tm_I tm_FT (tm_in w_TrustDeskModel_both_q4_x) x9 T0 M0 n0 T0 M0 n0) : mj_Met g l kY_TrustDeskModel_both (d + 20) [.ref o0] M0 n0 0 0 (tm_Q tm_FT (tm_in w_TrustDeskModel_both_q4_x) x9 T0 M0 n0 (fun r _ M => r = none ∧ rI M o0 ∧ (rE M0 M o0 1 0) ∧ (rv M o0 19 = 0 → rv M o0 22 = rv M0 o0 22))) := by
  refine mj_enter (by decide) (Nat.le_of_ble_eq_true rfl) ?_
  have yE0 := rE.rf yT
  refine mv_aload_n d_TrustDeskModel_both_0 rfl rfl ?_
  obtain ⟨_, b7, -⟩ := I0.1 _ _ h_o0
  refine mv_callV (kc' := 0) (ks' := 0) (As := []) (st9 := [.ref o0]) d_TrustDeskModel_both_1 lV_TrustDeskModel_308 b7 rfl (tc_TrustDeskModel_part_0_q4_x (d := d) (x9 := x9) (o0 := o0) h_o0 yR yE0.1 (by have := yR.1 15 _ _ rfl; have := yR.1 16 _ _ rfl; have := yR.1 19 _ _ rfl; have := yE0.f yS; omega) (by have := yR.1 15 _ _ rfl; have := yR.1 16 _ _ rfl; have := yR.1 19 _ _ rfl; have := yE0.f yS; omega) I0.start) rfl (Nat.le_of_ble_eq_true rfl) (Nat.le_of_ble_eq_true rfl) (Nat.le_of_ble_eq_true rfl) (hst := rfl) (fun b1r M2 n3 b1 => ?_)
  obtain ⟨T4, J5, rfl, R8, f9, f10⟩ := b1
  have I6 := I0.call J5 (tm_sub (by decide)) (Or.inl rfl)
  have t11 := J5.up h_o0
  have E12 : rE M0 M2 o0 1 0 := yE0.trans f9 (by decide) (yR.2 5 _ _ rfl 44).1 (by decide) (by decide)
  have := f9.w
  have L4_13 : ∀ (k : Nat) (T_13 : tm_H) (M_13 : mj_M) (n_13 : Nat), tm_I tm_FT (tm_in w_TrustDeskModel_both_q4_x) x9 T0 M0 n0 T_13 M_13 n_13 → T_13 o0 = some (0, 13, 0) → (rv M_13 o0 19 = 0 → rv M_13 o0 22 = rv M0 o0 22) → (rI M_13 o0) → (rE M0 M_13 o0 1 0) → 5 * (401 - rv M_13 o0 16) - rv M_13 o0 19 < (k : Int) → mj_V g l kY_TrustDeskModel_both (d + 20) 4 [(0, .ref o0)] [] M_13 n_13 0 0 (tm_Q tm_FT (tm_in w_TrustDeskModel_both_q4_x) x9 T0 M0 n0 (fun r _ M => r = none ∧ rI M o0 ∧ (rE M0 M o0 1 0) ∧ (rv M o0 19 = 0 → rv M o0 22 = rv M0 o0 22))) := by
    intro k13
    induction k13 with
    | zero =>
      intro T_13 M_13 n_13 I_13 h_q0_13 iv0_13 kKR_13 kKE_13 hk13
      have := kKR_13.1 15 _ _ rfl
      have := kKR_13.1 16 _ _ rfl
      have := kKR_13.1 19 _ _ rfl
      exfalso; omega
    | succ k13 ih13 =>
      intro T_13 M_13 n_13 I_13 h_q0_13 iv0_13 kKR_13 kKE_13 hk13
      have := kKE_13.f yS
      refine mv_aload_n d_TrustDeskModel_both_4 rfl rfl ?_
      obtain ⟨_, b14, -⟩ := I_13.1 _ _ h_q0_13
      refine mv_callV (kc1 := 0) (ks1 := 0) (kc' := 0) (ks' := 0) (As := []) (st9 := [.ref o0]) d_TrustDeskModel_both_5 lV_TrustDeskModel_230 b14 rfl (mj_enter (by decide) (Nat.le_of_ble_eq_true rfl) ?_) rfl (Nat.le_of_ble_eq_true rfl) (Nat.le_of_ble_eq_true rfl) (Nat.le_of_ble_eq_true rfl) (hst := rfl) (fun _ _ _ h => h)
      refine mv_aload_n d_TrustDeskModel_isWell_0 rfl rfl ?_
      obtain ⟨v16, q15⟩ := tm_atI I_13 h_q0_13 (k := 19) rfl
      refine tr_getK q15 d_TrustDeskModel_isWell_1 f_TrustDeskModel_224_13 ?_
      have := kKR_13.f (k := 19) q15 rfl
      have := tm_rv q15
      have := mz_hi v16
      refine mv_if_neZ (tgt := 11) (a := v16.toInt) d_TrustDeskModel_isWell_4 (by decide) rfl (fun b17 => ?_) (fun b17 => ?_)
      · refine mv_iconst (v := 0) d_TrustDeskModel_isWell_11 (by decide) ?_
        refine mv_iret d_TrustDeskModel_isWell_12 rfl (by decide) ?_
        refine mv_if_eq_t (tgt := 38) d_TrustDeskModel_both_8 (by decide) (by decide) ?_
        exact mv_vret d_TrustDeskModel_both_38 rfl ⟨_, I_13, rfl, kKR_13, kKE_13, (by have := kKR_13.1 15 _ _ rfl; have := kKR_13.1 16 _ _ rfl; have := kKR_13.1 19 _ _ rfl; have := kKE_13.f yS; omega)⟩
      · refine mv_iconst (v := 1) d_TrustDeskModel_isWell_7 (by decide) ?_
        refine mv_goto (tgt := 12) d_TrustDeskModel_isWell_8 (by decide) ?_
        refine mv_iret d_TrustDeskModel_isWell_12 rfl (by decide) ?_
        refine mv_if_eq_f (tgt := 38) d_TrustDeskModel_both_8 (by decide) (by decide) ?_
        refine mv_aload_n d_TrustDeskModel_both_11 rfl rfl ?_
        refine mv_ldcSw (id := 40) (tx := "and") d_TrustDeskModel_both_12 (List.mem_of_getElem? (i := 30) rfl) ?_
        obtain ⟨_, b24, -⟩ := I_13.1 _ _ h_q0_13
        refine mv_callV (kc' := 0) (ks' := 0) (As := [.ref 40]) (st9 := [.ref 40, .ref o0]) d_TrustDeskModel_both_15 lV_TrustDeskModel_244 b24 rfl (tc_TrustDeskModel_isWord_s1_40_x (d := (d + 15)) (x9 := x9) (o0 := o0) h_q0_13 kKR_13 I_13.start) rfl (Nat.le_of_ble_eq_true rfl) (Nat.le_of_ble_eq_true rfl) (Nat.le_of_ble_eq_true rfl) (hst := rfl) (fun b18r M19 n20 b18 => ?_)
        obtain ⟨T21, J22, v25, rfl, b26, b27, R28, f29⟩ := b18
        have I23 := I_13.call J22 (tm_sub (by decide)) (Or.inl rfl)
        have t30 := J22.up h_q0_13
        have := (rv_c I_13 J22 (I_13.up h_o0) (k := 16) rfl)
        have := (rv_c I_13 J22 (I_13.up h_o0) (k := 17) rfl)
        have := (rv_c I_13 J22 (I_13.up h_o0) (k := 19) rfl)
        have := (rv_c I_13 J22 (I_13.up h_o0) (k := 22) rfl)
        have E31 : rE M0 M19 o0 1 0 := kKE_13.same (rE_hv I_13 J22 (I_13.up h_o0) 15 19 (by decide)) (rE_ha I_13 J22 (I_13.up h_o0) (by decide))
        have q32 := J22.keep h_q0_13 (by decide) q15
        have := mz_hi v25
        refine mv_if_eqZ (tgt := 38) (a := v25.toInt) d_TrustDeskModel_both_18 (by decide) rfl (fun b33 => ?_) (fun b33 => ?_)
        · exact mv_vret d_TrustDeskModel_both_38 rfl ⟨_, I23, rfl, R28, E31, (by have := R28.1 15 _ _ rfl; have := R28.1 16 _ _ rfl; have := R28.1 19 _ _ rfl; have := E31.f yS; omega)⟩
        · refine mv_aload_n d_TrustDeskModel_both_21 rfl rfl ?_
          obtain ⟨_, b40, -⟩ := I23.1 _ _ t30
          refine mv_callV (kc' := 0) (ks' := 0) (As := []) (st9 := [.ref o0]) d_TrustDeskModel_both_22 lV_TrustDeskModel_237 b40 rfl (tc_TrustDeskModel_next_x (d := (d + 18)) (x9 := x9) (o0 := o0) t30 R28 I23.start) rfl (Nat.le_of_ble_eq_true rfl) (Nat.le_of_ble_eq_true rfl) (Nat.le_of_ble_eq_true rfl) (hst := rfl) (fun b34r M35 n36 b34 => ?_)
          obtain ⟨T37, J38, rfl, R41, f42, f43⟩ := b34
          have I39 := I23.call J38 (tm_sub (by decide)) (Or.inl rfl)
          have t44 := J38.up t30
          have := (rv_c I23 J38 (I23.up h_o0) (k := 19) rfl)
          have := (rv_c I23 J38 (I23.up h_o0) (k := 22) rfl)
          have h46 : rv M19 o0 16 + 1 ≤ rv M19 o0 15 := (by have := R28.1 15 _ _ rfl; have := R28.1 16 _ _ rfl; have := R28.1 19 _ _ rfl; have := E31.f yS; omega)
          have E45 : rE M0 M35 o0 1 1 := E31.next f42 f43 (rv_c I23 J38 (I23.up h_o0) (k := 19) rfl) (rE_ha I23 J38 (I23.up h_o0) (by decide)) (e := 1) h46 (by decide)
          have q47 := J38.keep t30 (by decide) q32
          refine mv_aload_n d_TrustDeskModel_both_25 rfl rfl ?_
          obtain ⟨_, b54, -⟩ := I39.1 _ _ t44
          refine mv_callV (kc' := 0) (ks' := 0) (As := []) (st9 := [.ref o0]) d_TrustDeskModel_both_26 lV_TrustDeskModel_308 b54 rfl (tc_TrustDeskModel_part_0_q4_x (d := d) (x9 := x9) (o0 := o0) t44 R41 E45.1 (by have := R41.1 15 _ _ rfl; have := R41.1 16 _ _ rfl; have := R41.1 19 _ _ rfl; have := E45.f yS; omega) (by have := R41.1 15 _ _ rfl; have := R41.1 16 _ _ rfl; have := R41.1 19 _ _ rfl; have := E45.f yS; omega) I39.start) rfl (Nat.le_of_ble_eq_true rfl) (Nat.le_of_ble_eq_true rfl) (Nat.le_of_ble_eq_true rfl) (hst := rfl) (fun b48r M49 n50 b48 => ?_)
          obtain ⟨T51, J52, rfl, R55, f56, f57⟩ := b48
          have I53 := I39.call J52 (tm_sub (by decide)) (Or.inl rfl)
          have t58 := J52.up t44
          have E59 : rE M0 M49 o0 2 1 := E45.trans f56 (by decide) (yR.2 5 _ _ rfl 44).1 (by decide) (by decide)
          have := f56.w
          refine mv_aload_n d_TrustDeskModel_both_29 rfl rfl ?_
          refine mv_bipush (v := (-7)) d_TrustDeskModel_both_30 (by decide) ?_
          obtain ⟨_, b66, -⟩ := I53.1 _ _ t58
          refine mv_callV (kc' := 0) (ks' := 0) (As := [.int (-7)]) (st9 := [.int (-7), .ref o0]) d_TrustDeskModel_both_32 lV_TrustDeskModel_279 b66 rfl (tc_TrustDeskModel_emits_x (d := (d + 18)) (x9 := x9) (o0 := o0) (x1 := (-7)) t58 R55 (by have := R55.1 15 _ _ rfl; have := R55.1 16 _ _ rfl; have := R55.1 19 _ _ rfl; have := E59.f yS; omega) (by decide) I53.start) rfl (Nat.le_of_ble_eq_true rfl) (Nat.le_of_ble_eq_true rfl) (Nat.le_of_ble_eq_true rfl) (hst := rfl) (fun b60r M61 n62 b60 => ?_)
          obtain ⟨T63, J64, rfl, R67, f68⟩ := b60
          have I65 := I53.call J64 (tm_sub (by decide)) (Or.inl rfl)
          have t69 := J64.up t58
          have := (rv_c I53 J64 (I53.up h_o0) (k := 16) rfl)
          have := (rv_c I53 J64 (I53.up h_o0) (k := 17) rfl)
          have := (rv_c I53 J64 (I53.up h_o0) (k := 19) rfl)
          have := (rv_c I53 J64 (I53.up h_o0) (k := 22) rfl)
          have E70 : rE M0 M61 o0 1 0 := E59.emit f68 (rE_hv I53 J64 (I53.up h_o0) 15 19 (by decide)) (yR.2 5 _ _ rfl 44).1 (by decide) (Or.inr (Or.inr ⟨by decide, by decide, by decide, by decide⟩)) (by decide)
          refine mv_goto (tgt := 4) d_TrustDeskModel_both_35 (by decide) ?_
          exact (ih13 T63 M61 n62 I65 t69 (by have := R67.1 15 _ _ rfl; have := R67.1 16 _ _ rfl; have := R67.1 19 _ _ rfl; have := E70.f yS; first | omega | decide) R67 E70 (by have := R67.1 15 _ _ rfl; have := R67.1 16 _ _ rfl; have := R67.1 19 _ _ rfl; have := E70.f yS; omega))
  exact mv_less (Nat.zero_le _) (Nat.zero_le _) (L4_13 4294967296 T4 M2 n3 I6 t11 (by have := R8.1 15 _ _ rfl; have := R8.1 16 _ _ rfl; have := R8.1 19 _ _ rfl; have := E12.f yS; first | omega | decide) R8 E12 (by have := R8.1 15 _ _ rfl; have := R8.1 16 _ _ rfl; have := R8.1 19 _ _ rfl; have := E12.f yS; omega))
def w_TrustDeskModel_cond_q4_x : List Nat := [1315, 1316, 1317, 1318, 1319, 1320, 1322, 20004, 20005]
theorem tc_TrustDeskModel_cond_q4_x {g : mj_G} {l : Launch} {d : Nat} {T0 : tm_H} {M0 : mj_M} {n0 x9 : Nat} {o0 : Nat} (h_o0 : T0 o0 = some (0, 13, 0)) (yR : rI M0 o0) (yT : rT M0 o0) (yS : rv M0 o0 19 = 0 → ra M0 o0 5 44 ≤ rv M0 o0 16) (yL : rv M0 o0 19 ≠ 0 ∨ (1 ≤ rv M0 o0 22 ∧ rv M0 o0 22 ≤ 4)) (I0 : tm_I tm_FT (tm_in w_TrustDeskModel_cond_q4_x) x9 T0 M0 n0 T0 M0 n0) : mj_Met g l kY_TrustDeskModel_cond (d + 21) [.ref o0] M0 n0 0 0 (tm_Q tm_FT (tm_in w_TrustDeskModel_cond_q4_x) x9 T0 M0 n0 (fun r _ M => r = none ∧ rI M o0 ∧ (rE M0 M o0 1 0) ∧ (rv M o0 19 = 0 → rv M o0 22 = rv M0 o0 22))) := by
  refine mj_enter (by decide) (Nat.le_of_ble_eq_true rfl) ?_
  have yE0 := rE.rf yT
  refine mv_aload_n d_TrustDeskModel_cond_0 rfl rfl ?_
  obtain ⟨_, b7, -⟩ := I0.1 _ _ h_o0
  refine mv_callV (kc' := 0) (ks' := 0) (As := []) (st9 := [.ref o0]) d_TrustDeskModel_cond_1 lV_TrustDeskModel_312 b7 rfl (tc_TrustDeskModel_both_q4_x (d := d) (x9 := x9) (o0 := o0) h_o0 yR yE0.1 (by have := yR.1 15 _ _ rfl; have := yR.1 16 _ _ rfl; have := yR.1 19 _ _ rfl; have := yE0.f yS; omega) (by have := yR.1 15 _ _ rfl; have := yR.1 16 _ _ rfl; have := yR.1 19 _ _ rfl; have := yE0.f yS; omega) I0.start) rfl (Nat.le_of_ble_eq_true rfl) (Nat.le_of_ble_eq_true rfl) (Nat.le_of_ble_eq_true rfl) (hst := rfl) (fun b1r M2 n3 b1 => ?_)
  obtain ⟨T4, J5, rfl, R8, f9, f10⟩ := b1
  have I6 := I0.call J5 (tm_sub (by decide)) (Or.inl rfl)
  have t11 := J5.up h_o0
  have E12 : rE M0 M2 o0 1 0 := yE0.trans f9 (by decide) (yR.2 5 _ _ rfl 44).1 (by decide) (by decide)
  have := f9.w
  have L4_13 : ∀ (k : Nat) (T_13 : tm_H) (M_13 : mj_M) (n_13 : Nat), tm_I tm_FT (tm_in w_TrustDeskModel_cond_q4_x) x9 T0 M0 n0 T_13 M_13 n_13 → T_13 o0 = some (0, 13, 0) → (rv M_13 o0 19 = 0 → rv M_13 o0 22 = rv M0 o0 22) → (rI M_13 o0) → (rE M0 M_13 o0 1 0) → 5 * (401 - rv M_13 o0 16) - rv M_13 o0 19 < (k : Int) → mj_V g l kY_TrustDeskModel_cond (d + 21) 4 [(0, .ref o0)] [] M_13 n_13 0 0 (tm_Q tm_FT (tm_in w_TrustDeskModel_cond_q4_x) x9 T0 M0 n0 (fun r _ M => r = none ∧ rI M o0 ∧ (rE M0 M o0 1 0) ∧ (rv M o0 19 = 0 → rv M o0 22 = rv M0 o0 22))) := by
    intro k13
    induction k13 with
    | zero =>
      intro T_13 M_13 n_13 I_13 h_q0_13 iv0_13 kKR_13 kKE_13 hk13
      have := kKR_13.1 15 _ _ rfl
      have := kKR_13.1 16 _ _ rfl
      have := kKR_13.1 19 _ _ rfl
      exfalso; omega
    | succ k13 ih13 =>
      intro T_13 M_13 n_13 I_13 h_q0_13 iv0_13 kKR_13 kKE_13 hk13
      have := kKE_13.f yS
      refine mv_aload_n d_TrustDeskModel_cond_4 rfl rfl ?_
      obtain ⟨_, b14, -⟩ := I_13.1 _ _ h_q0_13
      refine mv_callV (kc1 := 0) (ks1 := 0) (kc' := 0) (ks' := 0) (As := []) (st9 := [.ref o0]) d_TrustDeskModel_cond_5 lV_TrustDeskModel_230 b14 rfl (mj_enter (by decide) (Nat.le_of_ble_eq_true rfl) ?_) rfl (Nat.le_of_ble_eq_true rfl) (Nat.le_of_ble_eq_true rfl) (Nat.le_of_ble_eq_true rfl) (hst := rfl) (fun _ _ _ h => h)
      refine mv_aload_n d_TrustDeskModel_isWell_0 rfl rfl ?_
      obtain ⟨v16, q15⟩ := tm_atI I_13 h_q0_13 (k := 19) rfl
      refine tr_getK q15 d_TrustDeskModel_isWell_1 f_TrustDeskModel_224_13 ?_
      have := kKR_13.f (k := 19) q15 rfl
      have := tm_rv q15
      have := mz_hi v16
      refine mv_if_neZ (tgt := 11) (a := v16.toInt) d_TrustDeskModel_isWell_4 (by decide) rfl (fun b17 => ?_) (fun b17 => ?_)
      · refine mv_iconst (v := 0) d_TrustDeskModel_isWell_11 (by decide) ?_
        refine mv_iret d_TrustDeskModel_isWell_12 rfl (by decide) ?_
        refine mv_if_eq_t (tgt := 38) d_TrustDeskModel_cond_8 (by decide) (by decide) ?_
        exact mv_vret d_TrustDeskModel_cond_38 rfl ⟨_, I_13, rfl, kKR_13, kKE_13, (by have := kKR_13.1 15 _ _ rfl; have := kKR_13.1 16 _ _ rfl; have := kKR_13.1 19 _ _ rfl; have := kKE_13.f yS; omega)⟩
      · refine mv_iconst (v := 1) d_TrustDeskModel_isWell_7 (by decide) ?_
        refine mv_goto (tgt := 12) d_TrustDeskModel_isWell_8 (by decide) ?_
        refine mv_iret d_TrustDeskModel_isWell_12 rfl (by decide) ?_
        refine mv_if_eq_f (tgt := 38) d_TrustDeskModel_cond_8 (by decide) (by decide) ?_
        refine mv_aload_n d_TrustDeskModel_cond_11 rfl rfl ?_
        refine mv_ldcSw (id := 41) (tx := "or") d_TrustDeskModel_cond_12 (List.mem_of_getElem? (i := 31) rfl) ?_
        obtain ⟨_, b24, -⟩ := I_13.1 _ _ h_q0_13
        refine mv_callV (kc' := 0) (ks' := 0) (As := [.ref 41]) (st9 := [.ref 41, .ref o0]) d_TrustDeskModel_cond_15 lV_TrustDeskModel_244 b24 rfl (tc_TrustDeskModel_isWord_s1_41_x (d := (d + 16)) (x9 := x9) (o0 := o0) h_q0_13 kKR_13 I_13.start) rfl (Nat.le_of_ble_eq_true rfl) (Nat.le_of_ble_eq_true rfl) (Nat.le_of_ble_eq_true rfl) (hst := rfl) (fun b18r M19 n20 b18 => ?_)
        obtain ⟨T21, J22, v25, rfl, b26, b27, R28, f29⟩ := b18
        have I23 := I_13.call J22 (tm_sub (by decide)) (Or.inl rfl)
        have t30 := J22.up h_q0_13
        have := (rv_c I_13 J22 (I_13.up h_o0) (k := 16) rfl)
        have := (rv_c I_13 J22 (I_13.up h_o0) (k := 17) rfl)
        have := (rv_c I_13 J22 (I_13.up h_o0) (k := 19) rfl)
        have := (rv_c I_13 J22 (I_13.up h_o0) (k := 22) rfl)
        have E31 : rE M0 M19 o0 1 0 := kKE_13.same (rE_hv I_13 J22 (I_13.up h_o0) 15 19 (by decide)) (rE_ha I_13 J22 (I_13.up h_o0) (by decide))
        have q32 := J22.keep h_q0_13 (by decide) q15
        have := mz_hi v25
        refine mv_if_eqZ (tgt := 38) (a := v25.toInt) d_TrustDeskModel_cond_18 (by decide) rfl (fun b33 => ?_) (fun b33 => ?_)
        · exact mv_vret d_TrustDeskModel_cond_38 rfl ⟨_, I23, rfl, R28, E31, (by have := R28.1 15 _ _ rfl; have := R28.1 16 _ _ rfl; have := R28.1 19 _ _ rfl; have := E31.f yS; omega)⟩
        · refine mv_aload_n d_TrustDeskModel_cond_21 rfl rfl ?_
          obtain ⟨_, b40, -⟩ := I23.1 _ _ t30
          refine mv_callV (kc' := 0) (ks' := 0) (As := []) (st9 := [.ref o0]) d_TrustDeskModel_cond_22 lV_TrustDeskModel_237 b40 rfl (tc_TrustDeskModel_next_x (d := (d + 19)) (x9 := x9) (o0 := o0) t30 R28 I23.start) rfl (Nat.le_of_ble_eq_true rfl) (Nat.le_of_ble_eq_true rfl) (Nat.le_of_ble_eq_true rfl) (hst := rfl) (fun b34r M35 n36 b34 => ?_)
          obtain ⟨T37, J38, rfl, R41, f42, f43⟩ := b34
          have I39 := I23.call J38 (tm_sub (by decide)) (Or.inl rfl)
          have t44 := J38.up t30
          have := (rv_c I23 J38 (I23.up h_o0) (k := 19) rfl)
          have := (rv_c I23 J38 (I23.up h_o0) (k := 22) rfl)
          have h46 : rv M19 o0 16 + 1 ≤ rv M19 o0 15 := (by have := R28.1 15 _ _ rfl; have := R28.1 16 _ _ rfl; have := R28.1 19 _ _ rfl; have := E31.f yS; omega)
          have E45 : rE M0 M35 o0 1 1 := E31.next f42 f43 (rv_c I23 J38 (I23.up h_o0) (k := 19) rfl) (rE_ha I23 J38 (I23.up h_o0) (by decide)) (e := 1) h46 (by decide)
          have q47 := J38.keep t30 (by decide) q32
          refine mv_aload_n d_TrustDeskModel_cond_25 rfl rfl ?_
          obtain ⟨_, b54, -⟩ := I39.1 _ _ t44
          refine mv_callV (kc' := 0) (ks' := 0) (As := []) (st9 := [.ref o0]) d_TrustDeskModel_cond_26 lV_TrustDeskModel_312 b54 rfl (tc_TrustDeskModel_both_q4_x (d := d) (x9 := x9) (o0 := o0) t44 R41 E45.1 (by have := R41.1 15 _ _ rfl; have := R41.1 16 _ _ rfl; have := R41.1 19 _ _ rfl; have := E45.f yS; omega) (by have := R41.1 15 _ _ rfl; have := R41.1 16 _ _ rfl; have := R41.1 19 _ _ rfl; have := E45.f yS; omega) I39.start) rfl (Nat.le_of_ble_eq_true rfl) (Nat.le_of_ble_eq_true rfl) (Nat.le_of_ble_eq_true rfl) (hst := rfl) (fun b48r M49 n50 b48 => ?_)
          obtain ⟨T51, J52, rfl, R55, f56, f57⟩ := b48
          have I53 := I39.call J52 (tm_sub (by decide)) (Or.inl rfl)
          have t58 := J52.up t44
          have E59 : rE M0 M49 o0 2 1 := E45.trans f56 (by decide) (yR.2 5 _ _ rfl 44).1 (by decide) (by decide)
          have := f56.w
          refine mv_aload_n d_TrustDeskModel_cond_29 rfl rfl ?_
          refine mv_bipush (v := (-8)) d_TrustDeskModel_cond_30 (by decide) ?_
          obtain ⟨_, b66, -⟩ := I53.1 _ _ t58
          refine mv_callV (kc' := 0) (ks' := 0) (As := [.int (-8)]) (st9 := [.int (-8), .ref o0]) d_TrustDeskModel_cond_32 lV_TrustDeskModel_279 b66 rfl (tc_TrustDeskModel_emits_x (d := (d + 19)) (x9 := x9) (o0 := o0) (x1 := (-8)) t58 R55 (by have := R55.1 15 _ _ rfl; have := R55.1 16 _ _ rfl; have := R55.1 19 _ _ rfl; have := E59.f yS; omega) (by decide) I53.start) rfl (Nat.le_of_ble_eq_true rfl) (Nat.le_of_ble_eq_true rfl) (Nat.le_of_ble_eq_true rfl) (hst := rfl) (fun b60r M61 n62 b60 => ?_)
          obtain ⟨T63, J64, rfl, R67, f68⟩ := b60
          have I65 := I53.call J64 (tm_sub (by decide)) (Or.inl rfl)
          have t69 := J64.up t58
          have := (rv_c I53 J64 (I53.up h_o0) (k := 16) rfl)
          have := (rv_c I53 J64 (I53.up h_o0) (k := 17) rfl)
          have := (rv_c I53 J64 (I53.up h_o0) (k := 19) rfl)
          have := (rv_c I53 J64 (I53.up h_o0) (k := 22) rfl)
          have E70 : rE M0 M61 o0 1 0 := E59.emit f68 (rE_hv I53 J64 (I53.up h_o0) 15 19 (by decide)) (yR.2 5 _ _ rfl 44).1 (by decide) (Or.inr (Or.inr ⟨by decide, by decide, by decide, by decide⟩)) (by decide)
          refine mv_goto (tgt := 4) d_TrustDeskModel_cond_35 (by decide) ?_
          exact (ih13 T63 M61 n62 I65 t69 (by have := R67.1 15 _ _ rfl; have := R67.1 16 _ _ rfl; have := R67.1 19 _ _ rfl; have := E70.f yS; first | omega | decide) R67 E70 (by have := R67.1 15 _ _ rfl; have := R67.1 16 _ _ rfl; have := R67.1 19 _ _ rfl; have := E70.f yS; omega))
  exact mv_less (Nat.zero_le _) (Nat.zero_le _) (L4_13 4294967296 T4 M2 n3 I6 t11 (by have := R8.1 15 _ _ rfl; have := R8.1 16 _ _ rfl; have := R8.1 19 _ _ rfl; have := E12.f yS; first | omega | decide) R8 E12 (by have := R8.1 15 _ _ rfl; have := R8.1 16 _ _ rfl; have := R8.1 19 _ _ rfl; have := E12.f yS; omega))
def w_TrustDeskModel_part_0_q5_x : List Nat := [1315, 1316, 1317, 1318, 1319, 1320, 1322, 20004, 20005]
theorem tc_TrustDeskModel_part_0_q5_x {g : mj_G} {l : Launch} {d : Nat} {T0 : tm_H} {M0 : mj_M} {n0 x9 : Nat} {o0 : Nat} (h_o0 : T0 o0 = some (0, 13, 0)) (yR : rI M0 o0) (yT : rT M0 o0) (yS : rv M0 o0 19 = 0 → ra M0 o0 5 44 ≤ rv M0 o0 16) (yL : rv M0 o0 19 ≠ 0 ∨ (0 ≤ rv M0 o0 22 ∧ rv M0 o0 22 ≤ 4)) (I0 : tm_I tm_FT (tm_in w_TrustDeskModel_part_0_q5_x) x9 T0 M0 n0 T0 M0 n0) : mj_Met g l kY_TrustDeskModel_part_0 (d + 22) [.ref o0] M0 n0 0 0 (tm_Q tm_FT (tm_in w_TrustDeskModel_part_0_q5_x) x9 T0 M0 n0 (fun r _ M => r = none ∧ rI M o0 ∧ (rE M0 M o0 1 0) ∧ (rv M o0 19 = 0 → rv M o0 22 = rv M0 o0 22))) := by
  refine mj_enter (by decide) (Nat.le_of_ble_eq_true rfl) ?_
  have yE0 := rE.rf yT
  refine mv_iconst (v := 0) d_TrustDeskModel_part_0_0 (by decide) ?_
  refine mv_istore_n (lv' := [(1, .int 0), (0, .ref o0)]) d_TrustDeskModel_part_0_1 rfl (by decide) rfl ?_
  have L2_1 : ∀ (k : Nat) (i1_1 : Int32) (T_1 : tm_H) (M_1 : mj_M) (n_1 : Nat), tm_I tm_FT (tm_in w_TrustDeskModel_part_0_q5_x) x9 T0 M0 n0 T_1 M_1 n_1 → T_1 o0 = some (0, 13, 0) → (rv M_1 o0 19 = 0 → rv M_1 o0 22 = rv M0 o0 22) → 0 ≤ i1_1.toInt → i1_1.toInt ≤ 1 → (rI M_1 o0) → (rE M0 M_1 o0 0 i1_1.toInt) → 5 * (401 - rv M_1 o0 16) - rv M_1 o0 19 < (k : Int) → mj_V g l kY_TrustDeskModel_part_0 (d + 22) 2 [(1, .int i1_1), (0, .ref o0)] [] M_1 n_1 0 0 (tm_Q tm_FT (tm_in w_TrustDeskModel_part_0_q5_x) x9 T0 M0 n0 (fun r _ M => r = none ∧ rI M o0 ∧ (rE M0 M o0 1 0) ∧ (rv M o0 19 = 0 → rv M o0 22 = rv M0 o0 22))) := by
    intro k1
    induction k1 with
    | zero =>
      intro i1_1 T_1 M_1 n_1 I_1 h_q0_1 iv0_1 iv1_1 iv2_1 kKR_1 kKE_1 hk1
      have := kKR_1.1 15 _ _ rfl
      have := kKR_1.1 16 _ _ rfl
      have := kKR_1.1 19 _ _ rfl
      exfalso; omega
    | succ k1 ih1 =>
      intro i1_1 T_1 M_1 n_1 I_1 h_q0_1 iv0_1 iv1_1 iv2_1 kKR_1 kKE_1 hk1
      have := kKE_1.f yS
      refine mv_aload_n d_TrustDeskModel_part_0_2 rfl rfl ?_
      obtain ⟨_, b2, -⟩ := I_1.1 _ _ h_q0_1
      refine mv_callV (kc1 := 0) (ks1 := 0) (kc' := 0) (ks' := 0) (As := []) (st9 := [.ref o0]) d_TrustDeskModel_part_0_3 lV_TrustDeskModel_230 b2 rfl (mj_enter (by decide) (Nat.le_of_ble_eq_true rfl) ?_) rfl (Nat.le_of_ble_eq_true rfl) (Nat.le_of_ble_eq_true rfl) (Nat.le_of_ble_eq_true rfl) (hst := rfl) (fun _ _ _ h => h)
      refine mv_aload_n d_TrustDeskModel_isWell_0 rfl rfl ?_
      obtain ⟨v4, q3⟩ := tm_atI I_1 h_q0_1 (k := 19) rfl
      refine tr_getK q3 d_TrustDeskModel_isWell_1 f_TrustDeskModel_224_13 ?_
      have := kKR_1.f (k := 19) q3 rfl
      have := tm_rv q3
      have := mz_hi v4
      refine mv_if_neZ (tgt := 11) (a := v4.toInt) d_TrustDeskModel_isWell_4 (by decide) rfl (fun b5 => ?_) (fun b5 => ?_)
      · refine mv_iconst (v := 0) d_TrustDeskModel_isWell_11 (by decide) ?_
        refine mv_iret d_TrustDeskModel_isWell_12 rfl (by decide) ?_
        refine mv_if_eq_t (tgt := 36) d_TrustDeskModel_part_0_6 (by decide) (by decide) ?_
        refine mv_aload_n d_TrustDeskModel_part_0_36 rfl rfl ?_
        obtain ⟨_, b6, -⟩ := I_1.1 _ _ h_q0_1
        refine mv_callV (kc1 := 0) (ks1 := 0) (kc' := 0) (ks' := 0) (As := []) (st9 := [.ref o0]) d_TrustDeskModel_part_0_37 lV_TrustDeskModel_230 b6 rfl (mj_enter (by decide) (Nat.le_of_ble_eq_true rfl) ?_) rfl (Nat.le_of_ble_eq_true rfl) (Nat.le_of_ble_eq_true rfl) (Nat.le_of_ble_eq_true rfl) (hst := rfl) (fun _ _ _ h => h)
        refine mv_aload_n d_TrustDeskModel_isWell_0 rfl rfl ?_
        refine tr_getK (k := 19) q3 d_TrustDeskModel_isWell_1 f_TrustDeskModel_224_13 ?_
        have := mz_hi v4
        refine mv_if_neZ (tgt := 11) (a := v4.toInt) d_TrustDeskModel_isWell_4 (by decide) rfl (fun b7 => ?_) (fun b7 => ?_)
        · refine mv_iconst (v := 0) d_TrustDeskModel_isWell_11 (by decide) ?_
          refine mv_iret d_TrustDeskModel_isWell_12 rfl (by decide) ?_
          refine mv_if_ne_f (tgt := 44) d_TrustDeskModel_part_0_40 (by decide) (by decide) ?_
          exact mv_vret d_TrustDeskModel_part_0_43 rfl ⟨_, I_1, rfl, kKR_1, kKE_1.vac (by have := kKR_1.1 15 _ _ rfl; have := kKR_1.1 16 _ _ rfl; have := kKR_1.1 19 _ _ rfl; have := kKE_1.f yS; omega) 1 0, (by have := kKR_1.1 15 _ _ rfl; have := kKR_1.1 16 _ _ rfl; have := kKR_1.1 19 _ _ rfl; have := kKE_1.f yS; omega)⟩
        · refine mv_iconst (v := 1) d_TrustDeskModel_isWell_7 (by decide) ?_
          refine mv_goto (tgt := 12) d_TrustDeskModel_isWell_8 (by decide) ?_
          refine mv_iret d_TrustDeskModel_isWell_12 rfl (by decide) ?_
          refine mv_if_ne_t (tgt := 44) d_TrustDeskModel_part_0_40 (by decide) (by decide) ?_
          refine mv_aload_n d_TrustDeskModel_part_0_44 rfl rfl ?_
          refine mv_bipush (v := 91) d_TrustDeskModel_part_0_45 (by decide) ?_
          obtain ⟨_, b8, -⟩ := I_1.1 _ _ h_q0_1
          refine mv_callV (kc1 := 0) (ks1 := 0) (kc' := 0) (ks' := 0) (As := [.int 91]) (st9 := [.int 91, .ref o0]) d_TrustDeskModel_part_0_47 lV_TrustDeskModel_234 b8 rfl (mj_enter (by decide) (Nat.le_of_ble_eq_true rfl) ?_) rfl (Nat.le_of_ble_eq_true rfl) (Nat.le_of_ble_eq_true rfl) (Nat.le_of_ble_eq_true rfl) (hst := rfl) (fun _ _ _ h => h)
          refine mv_aload_n d_TrustDeskModel_isSign_0 rfl rfl ?_
          obtain ⟨v10, q9⟩ := tm_atI I_1 h_q0_1 (k := 17) rfl
          refine tr_getK q9 d_TrustDeskModel_isSign_1 f_TrustDeskModel_198_13 ?_
          have := tm_rv q9
          refine mv_iconst (v := 4) d_TrustDeskModel_isSign_4 (by decide) ?_
          have := mz_hi v10
          refine mv_icmp_neZ (tgt := 20) (a := v10.toInt) (b := 4) d_TrustDeskModel_isSign_5 (by decide) rfl (by decide) (fun b11 => ?_) (fun b11 => ?_)
          · refine mv_iconst (v := 0) d_TrustDeskModel_isSign_20 (by decide) ?_
            refine mv_iret d_TrustDeskModel_isSign_21 rfl (by decide) ?_
            refine mv_if_eq_t (tgt := 80) d_TrustDeskModel_part_0_50 (by decide) (by decide) ?_
            refine mv_aload_n d_TrustDeskModel_part_0_80 rfl rfl ?_
            obtain ⟨_, b18, -⟩ := I_1.1 _ _ h_q0_1
            refine mv_callV (kc' := 0) (ks' := 0) (As := []) (st9 := [.ref o0]) d_TrustDeskModel_part_0_81 lV_TrustDeskModel_305 b18 rfl (tc_TrustDeskModel_compares_q5_x (d := d) (x9 := x9) (o0 := o0) h_q0_1 kKR_1 kKE_1.1 (by have := kKR_1.1 15 _ _ rfl; have := kKR_1.1 16 _ _ rfl; have := kKR_1.1 19 _ _ rfl; have := kKE_1.f yS; omega) (by have := kKR_1.1 15 _ _ rfl; have := kKR_1.1 16 _ _ rfl; have := kKR_1.1 19 _ _ rfl; have := kKE_1.f yS; omega) I_1.start) rfl (Nat.le_of_ble_eq_true rfl) (Nat.le_of_ble_eq_true rfl) (Nat.le_of_ble_eq_true rfl) (hst := rfl) (fun b12r M13 n14 b12 => ?_)
            obtain ⟨T15, J16, rfl, R19, f20, f21⟩ := b12
            have I17 := I_1.call J16 (tm_sub (by decide)) (Or.inl rfl)
            have t22 := J16.up h_q0_1
            have E23 : rE M0 M13 o0 1 (i1_1.toInt + 0) := kKE_1.trans f20 (by decide) (yR.2 5 _ _ rfl 44).1 (by decide) (by omega)
            have := f20.w
            refine mv_iload_n d_TrustDeskModel_part_0_84 rfl rfl ?_
            have := mz_hi i1_1
            refine mv_if_eqZ (tgt := 94) (a := i1_1.toInt) d_TrustDeskModel_part_0_85 (by decide) rfl (fun b24 => ?_) (fun b24 => ?_)
            · exact mv_vret d_TrustDeskModel_part_0_94 rfl ⟨_, I17, rfl, R19, E23.less (by omega), (by have := R19.1 15 _ _ rfl; have := R19.1 16 _ _ rfl; have := R19.1 19 _ _ rfl; have := E23.f yS; omega)⟩
            · refine mv_aload_n d_TrustDeskModel_part_0_88 rfl rfl ?_
              refine mv_bipush (v := (-9)) d_TrustDeskModel_part_0_89 (by decide) ?_
              obtain ⟨_, b31, -⟩ := I17.1 _ _ t22
              refine mv_callV (kc' := 0) (ks' := 0) (As := [.int (-9)]) (st9 := [.int (-9), .ref o0]) d_TrustDeskModel_part_0_91 lV_TrustDeskModel_279 b31 rfl (tc_TrustDeskModel_emits_x (d := (d + 20)) (x9 := x9) (o0 := o0) (x1 := (-9)) t22 R19 (by have := R19.1 15 _ _ rfl; have := R19.1 16 _ _ rfl; have := R19.1 19 _ _ rfl; have := E23.f yS; omega) (by decide) I17.start) rfl (Nat.le_of_ble_eq_true rfl) (Nat.le_of_ble_eq_true rfl) (Nat.le_of_ble_eq_true rfl) (hst := rfl) (fun b25r M26 n27 b25 => ?_)
              obtain ⟨T28, J29, rfl, R32, f33⟩ := b25
              have I30 := I17.call J29 (tm_sub (by decide)) (Or.inl rfl)
              have t34 := J29.up t22
              have := (rv_c I17 J29 (I17.up h_o0) (k := 16) rfl)
              have := (rv_c I17 J29 (I17.up h_o0) (k := 17) rfl)
              have := (rv_c I17 J29 (I17.up h_o0) (k := 19) rfl)
              have := (rv_c I17 J29 (I17.up h_o0) (k := 22) rfl)
              have E35 : rE M0 M26 o0 1 (i1_1.toInt + (-1)) := E23.emit f33 (rE_hv I17 J29 (I17.up h_o0) 15 19 (by decide)) (yR.2 5 _ _ rfl 44).1 (by decide) (Or.inr (Or.inl ⟨by decide, by decide, by decide⟩)) (by omega)
              exact mv_vret d_TrustDeskModel_part_0_94 rfl ⟨_, I30, rfl, R32, E35.less (by omega), (by have := R32.1 15 _ _ rfl; have := R32.1 16 _ _ rfl; have := R32.1 19 _ _ rfl; have := E35.f yS; omega)⟩
          · refine mv_aload_n d_TrustDeskModel_isSign_8 rfl rfl ?_
            obtain ⟨v37, q36⟩ := tm_atI I_1 h_q0_1 (k := 18) rfl
            refine tr_getK q36 d_TrustDeskModel_isSign_9 f_TrustDeskModel_201_13 ?_
            have := kKR_1.f (k := 18) q36 rfl
            have := tm_rv q36
            refine mv_iload_n d_TrustDeskModel_isSign_12 rfl rfl ?_
            have := mz_hi v37
            refine mv_icmp_neZ (tgt := 20) (a := v37.toInt) (b := 91) d_TrustDeskModel_isSign_13 (by decide) rfl (by decide) (fun b38 => ?_) (fun b38 => ?_)
            · refine mv_iconst (v := 0) d_TrustDeskModel_isSign_20 (by decide) ?_
              refine mv_iret d_TrustDeskModel_isSign_21 rfl (by decide) ?_
              refine mv_if_eq_t (tgt := 80) d_TrustDeskModel_part_0_50 (by decide) (by decide) ?_
              refine mv_aload_n d_TrustDeskModel_part_0_80 rfl rfl ?_
              obtain ⟨_, b45, -⟩ := I_1.1 _ _ h_q0_1
              refine mv_callV (kc' := 0) (ks' := 0) (As := []) (st9 := [.ref o0]) d_TrustDeskModel_part_0_81 lV_TrustDeskModel_305 b45 rfl (tc_TrustDeskModel_compares_q5_x (d := d) (x9 := x9) (o0 := o0) h_q0_1 kKR_1 kKE_1.1 (by have := kKR_1.1 15 _ _ rfl; have := kKR_1.1 16 _ _ rfl; have := kKR_1.1 19 _ _ rfl; have := kKE_1.f yS; omega) (by have := kKR_1.1 15 _ _ rfl; have := kKR_1.1 16 _ _ rfl; have := kKR_1.1 19 _ _ rfl; have := kKE_1.f yS; omega) I_1.start) rfl (Nat.le_of_ble_eq_true rfl) (Nat.le_of_ble_eq_true rfl) (Nat.le_of_ble_eq_true rfl) (hst := rfl) (fun b39r M40 n41 b39 => ?_)
              obtain ⟨T42, J43, rfl, R46, f47, f48⟩ := b39
              have I44 := I_1.call J43 (tm_sub (by decide)) (Or.inl rfl)
              have t49 := J43.up h_q0_1
              have E50 : rE M0 M40 o0 1 (i1_1.toInt + 0) := kKE_1.trans f47 (by decide) (yR.2 5 _ _ rfl 44).1 (by decide) (by omega)
              have := f47.w
              refine mv_iload_n d_TrustDeskModel_part_0_84 rfl rfl ?_
              have := mz_hi i1_1
              refine mv_if_eqZ (tgt := 94) (a := i1_1.toInt) d_TrustDeskModel_part_0_85 (by decide) rfl (fun b51 => ?_) (fun b51 => ?_)
              · exact mv_vret d_TrustDeskModel_part_0_94 rfl ⟨_, I44, rfl, R46, E50.less (by omega), (by have := R46.1 15 _ _ rfl; have := R46.1 16 _ _ rfl; have := R46.1 19 _ _ rfl; have := E50.f yS; omega)⟩
              · refine mv_aload_n d_TrustDeskModel_part_0_88 rfl rfl ?_
                refine mv_bipush (v := (-9)) d_TrustDeskModel_part_0_89 (by decide) ?_
                obtain ⟨_, b58, -⟩ := I44.1 _ _ t49
                refine mv_callV (kc' := 0) (ks' := 0) (As := [.int (-9)]) (st9 := [.int (-9), .ref o0]) d_TrustDeskModel_part_0_91 lV_TrustDeskModel_279 b58 rfl (tc_TrustDeskModel_emits_x (d := (d + 20)) (x9 := x9) (o0 := o0) (x1 := (-9)) t49 R46 (by have := R46.1 15 _ _ rfl; have := R46.1 16 _ _ rfl; have := R46.1 19 _ _ rfl; have := E50.f yS; omega) (by decide) I44.start) rfl (Nat.le_of_ble_eq_true rfl) (Nat.le_of_ble_eq_true rfl) (Nat.le_of_ble_eq_true rfl) (hst := rfl) (fun b52r M53 n54 b52 => ?_)
                obtain ⟨T55, J56, rfl, R59, f60⟩ := b52
                have I57 := I44.call J56 (tm_sub (by decide)) (Or.inl rfl)
                have t61 := J56.up t49
                have := (rv_c I44 J56 (I44.up h_o0) (k := 16) rfl)
                have := (rv_c I44 J56 (I44.up h_o0) (k := 17) rfl)
                have := (rv_c I44 J56 (I44.up h_o0) (k := 19) rfl)
                have := (rv_c I44 J56 (I44.up h_o0) (k := 22) rfl)
                have E62 : rE M0 M53 o0 1 (i1_1.toInt + (-1)) := E50.emit f60 (rE_hv I44 J56 (I44.up h_o0) 15 19 (by decide)) (yR.2 5 _ _ rfl 44).1 (by decide) (Or.inr (Or.inl ⟨by decide, by decide, by decide⟩)) (by omega)
                exact mv_vret d_TrustDeskModel_part_0_94 rfl ⟨_, I57, rfl, R59, E62.less (by omega), (by have := R59.1 15 _ _ rfl; have := R59.1 16 _ _ rfl; have := R59.1 19 _ _ rfl; have := E62.f yS; omega)⟩
            · refine mv_iconst (v := 1) d_TrustDeskModel_isSign_16 (by decide) ?_
              refine mv_goto (tgt := 21) d_TrustDeskModel_isSign_17 (by decide) ?_
              refine mv_iret d_TrustDeskModel_isSign_21 rfl (by decide) ?_
              refine mv_if_eq_f (tgt := 80) d_TrustDeskModel_part_0_50 (by decide) (by decide) ?_
              refine mv_aload_n d_TrustDeskModel_part_0_53 rfl rfl ?_
              obtain ⟨_, b69, -⟩ := I_1.1 _ _ h_q0_1
              refine mv_callV (kc' := 0) (ks' := 0) (As := []) (st9 := [.ref o0]) d_TrustDeskModel_part_0_54 lV_TrustDeskModel_285 b69 rfl (tc_TrustDeskModel_opens_x (d := (d + 19)) (x9 := x9) (o0 := o0) h_q0_1 kKR_1 kKE_1.1 (by have := kKR_1.1 15 _ _ rfl; have := kKR_1.1 16 _ _ rfl; have := kKR_1.1 19 _ _ rfl; have := kKE_1.f yS; omega) (by have := kKR_1.1 15 _ _ rfl; have := kKR_1.1 16 _ _ rfl; have := kKR_1.1 19 _ _ rfl; have := kKE_1.f yS; omega) (by have := kKR_1.1 15 _ _ rfl; have := kKR_1.1 16 _ _ rfl; have := kKR_1.1 19 _ _ rfl; have := kKE_1.f yS; omega) I_1.start) rfl (Nat.le_of_ble_eq_true rfl) (Nat.le_of_ble_eq_true rfl) (Nat.le_of_ble_eq_true rfl) (hst := rfl) (fun b63r M64 n65 b63 => ?_)
              obtain ⟨T66, J67, rfl, R70, f71, f72⟩ := b63
              have I68 := I_1.call J67 (tm_sub (by decide)) (Or.inl rfl)
              have t73 := J67.up h_q0_1
              have E74 : rE M0 M64 o0 0 (i1_1.toInt + 1) := kKE_1.trans f71 (by decide) (yR.2 5 _ _ rfl 44).1 (by decide) (by omega)
              have := f71.w
              refine mv_aload_n d_TrustDeskModel_part_0_57 rfl rfl ?_
              obtain ⟨_, b81, -⟩ := I68.1 _ _ t73
              refine mv_callV (kc' := 0) (ks' := 0) (As := []) (st9 := [.ref o0]) d_TrustDeskModel_part_0_58 lV_TrustDeskModel_302 b81 rfl (tc_TrustDeskModel_cond_q4_x (d := d) (x9 := x9) (o0 := o0) t73 R70 E74.1 (by have := R70.1 15 _ _ rfl; have := R70.1 16 _ _ rfl; have := R70.1 19 _ _ rfl; have := E74.f yS; omega) (by have := R70.1 15 _ _ rfl; have := R70.1 16 _ _ rfl; have := R70.1 19 _ _ rfl; have := E74.f yS; omega) I68.start) rfl (Nat.le_of_ble_eq_true rfl) (Nat.le_of_ble_eq_true rfl) (Nat.le_of_ble_eq_true rfl) (hst := rfl) (fun b75r M76 n77 b75 => ?_)
              obtain ⟨T78, J79, rfl, R82, f83, f84⟩ := b75
              have I80 := I68.call J79 (tm_sub (by decide)) (Or.inl rfl)
              have t85 := J79.up t73
              have E86 : rE M0 M76 o0 1 (i1_1.toInt + 1) := E74.trans f83 (by decide) (yR.2 5 _ _ rfl 44).1 (by decide) (by omega)
              have := f83.w
              refine mv_aload_n d_TrustDeskModel_part_0_61 rfl rfl ?_
              refine mv_bipush (v := 93) d_TrustDeskModel_part_0_62 (by decide) ?_
              obtain ⟨_, b93, -⟩ := I80.1 _ _ t85
              refine mv_callV (kc' := 0) (ks' := 0) (As := [.int 93]) (st9 := [.int 93, .ref o0]) d_TrustDeskModel_part_0_64 lV_TrustDeskModel_291 b93 rfl (tc_TrustDeskModel_wantSign_x (d := (d + 19)) (x9 := x9) (o0 := o0) (x1 := 93) t85 R82 E86.1 (by have := R82.1 15 _ _ rfl; have := R82.1 16 _ _ rfl; have := R82.1 19 _ _ rfl; have := E86.f yS; omega) I80.start) rfl (Nat.le_of_ble_eq_true rfl) (Nat.le_of_ble_eq_true rfl) (Nat.le_of_ble_eq_true rfl) (hst := rfl) (fun b87r M88 n89 b87 => ?_)
              obtain ⟨T90, J91, rfl, R94, f95⟩ := b87
              have I92 := I80.call J91 (tm_sub (by decide)) (Or.inl rfl)
              have t96 := J91.up t85
              have := (rv_c I80 J91 (I80.up h_o0) (k := 22) rfl)
              have E97 : rE M0 M88 o0 1 (i1_1.toInt + 2) := E86.trans f95 (by decide) (yR.2 5 _ _ rfl 44).1 (by decide) (by omega)
              have := f95.w
              refine mv_aload_n d_TrustDeskModel_part_0_67 rfl rfl ?_
              refine mv_dup d_TrustDeskModel_part_0_68 rfl ?_
              obtain ⟨v99, q98⟩ := tm_atI I92 t96 (k := 22) rfl
              refine tr_getK q98 d_TrustDeskModel_part_0_69 f_TrustDeskModel_276_13 ?_
              have := tm_rv q98
              refine mv_iconst (v := 1) d_TrustDeskModel_part_0_72 (by decide) ?_
              refine mv_isub d_TrustDeskModel_part_0_73 ?_
              have : rv M88 o0 19 = 0 → (v99 - 1 : Int32).toInt = v99.toInt - 1 := fun h9 => mz_sub2 rfl (by decide) (by omega) (by omega)
              refine tr_putR (k := 22) I92 R94 t96 rfl ⟨_, rfl⟩ (fun _ h => by cases h) rfl (fun lo hi h => by cases h) (Or.inl (by decide)) d_TrustDeskModel_part_0_74 p_TrustDeskModel_276_13 rfl rfl (fun M100 I101 q102 K103 R104 A105 V106 => ?_)
              have := V106 16 (by decide)
              have := V106 17 (by decide)
              have := V106 19 (by decide)
              have := tm_rv q102
              have E107 : rE M0 M100 o0 1 (i1_1.toInt + 2) := E97.same (fun k h1 h2 => V106 k (by omega)) (fun k h1 h2 => A105 k (by omega))
              refine mv_goto (tgt := 84) d_TrustDeskModel_part_0_77 (by decide) ?_
              refine mv_iload_n d_TrustDeskModel_part_0_84 rfl rfl ?_
              have := mz_hi i1_1
              refine mv_if_eqZ (tgt := 94) (a := i1_1.toInt) d_TrustDeskModel_part_0_85 (by decide) rfl (fun b108 => ?_) (fun b108 => ?_)
              · exact mv_vret d_TrustDeskModel_part_0_94 rfl ⟨_, I101, rfl, R104, E107.less (by omega), (by have := R104.1 15 _ _ rfl; have := R104.1 16 _ _ rfl; have := R104.1 19 _ _ rfl; have := E107.f yS; omega)⟩
              · refine mv_aload_n d_TrustDeskModel_part_0_88 rfl rfl ?_
                refine mv_bipush (v := (-9)) d_TrustDeskModel_part_0_89 (by decide) ?_
                obtain ⟨_, b115, -⟩ := I101.1 _ _ t96
                refine mv_callV (kc' := 0) (ks' := 0) (As := [.int (-9)]) (st9 := [.int (-9), .ref o0]) d_TrustDeskModel_part_0_91 lV_TrustDeskModel_279 b115 rfl (tc_TrustDeskModel_emits_x (d := (d + 20)) (x9 := x9) (o0 := o0) (x1 := (-9)) t96 R104 (by have := R104.1 15 _ _ rfl; have := R104.1 16 _ _ rfl; have := R104.1 19 _ _ rfl; have := E107.f yS; omega) (by decide) I101.start) rfl (Nat.le_of_ble_eq_true rfl) (Nat.le_of_ble_eq_true rfl) (Nat.le_of_ble_eq_true rfl) (hst := rfl) (fun b109r M110 n111 b109 => ?_)
                obtain ⟨T112, J113, rfl, R116, f117⟩ := b109
                have I114 := I101.call J113 (tm_sub (by decide)) (Or.inl rfl)
                have t118 := J113.up t96
                have := (rv_c I101 J113 (I101.up h_o0) (k := 16) rfl)
                have := (rv_c I101 J113 (I101.up h_o0) (k := 17) rfl)
                have := (rv_c I101 J113 (I101.up h_o0) (k := 19) rfl)
                have := (rv_c I101 J113 (I101.up h_o0) (k := 22) rfl)
                have E119 : rE M0 M110 o0 1 (i1_1.toInt + 1) := E107.emit f117 (rE_hv I101 J113 (I101.up h_o0) 15 19 (by decide)) (yR.2 5 _ _ rfl 44).1 (by decide) (Or.inr (Or.inl ⟨by decide, by decide, by decide⟩)) (by omega)
                have q120 := J113.keep t96 (by decide) q102
                exact mv_vret d_TrustDeskModel_part_0_94 rfl ⟨_, I114, rfl, R116, E119.less (by omega), (by have := R116.1 15 _ _ rfl; have := R116.1 16 _ _ rfl; have := R116.1 19 _ _ rfl; have := E119.f yS; omega)⟩
      · refine mv_iconst (v := 1) d_TrustDeskModel_isWell_7 (by decide) ?_
        refine mv_goto (tgt := 12) d_TrustDeskModel_isWell_8 (by decide) ?_
        refine mv_iret d_TrustDeskModel_isWell_12 rfl (by decide) ?_
        refine mv_if_eq_f (tgt := 36) d_TrustDeskModel_part_0_6 (by decide) (by decide) ?_
        refine mv_aload_n d_TrustDeskModel_part_0_9 rfl rfl ?_
        refine mv_ldcSw (id := 26) (tx := "not") d_TrustDeskModel_part_0_10 (List.mem_of_getElem? (i := 16) rfl) ?_
        obtain ⟨_, b127, -⟩ := I_1.1 _ _ h_q0_1
        refine mv_callV (kc' := 0) (ks' := 0) (As := [.ref 26]) (st9 := [.ref 26, .ref o0]) d_TrustDeskModel_part_0_13 lV_TrustDeskModel_244 b127 rfl (tc_TrustDeskModel_isWord_s1_26_x (d := (d + 17)) (x9 := x9) (o0 := o0) h_q0_1 kKR_1 I_1.start) rfl (Nat.le_of_ble_eq_true rfl) (Nat.le_of_ble_eq_true rfl) (Nat.le_of_ble_eq_true rfl) (hst := rfl) (fun b121r M122 n123 b121 => ?_)
        obtain ⟨T124, J125, v128, rfl, b129, b130, R131, f132⟩ := b121
        have I126 := I_1.call J125 (tm_sub (by decide)) (Or.inl rfl)
        have t133 := J125.up h_q0_1
        have := (rv_c I_1 J125 (I_1.up h_o0) (k := 16) rfl)
        have := (rv_c I_1 J125 (I_1.up h_o0) (k := 17) rfl)
        have := (rv_c I_1 J125 (I_1.up h_o0) (k := 19) rfl)
        have := (rv_c I_1 J125 (I_1.up h_o0) (k := 22) rfl)
        have E134 : rE M0 M122 o0 0 i1_1.toInt := kKE_1.same (rE_hv I_1 J125 (I_1.up h_o0) 15 19 (by decide)) (rE_ha I_1 J125 (I_1.up h_o0) (by decide))
        have q135 := J125.keep h_q0_1 (by decide) q3
        have := mz_hi v128
        refine mv_if_eqZ (tgt := 36) (a := v128.toInt) d_TrustDeskModel_part_0_16 (by decide) rfl (fun b136 => ?_) (fun b136 => ?_)
        · refine mv_aload_n d_TrustDeskModel_part_0_36 rfl rfl ?_
          obtain ⟨_, b137, -⟩ := I126.1 _ _ t133
          refine mv_callV (kc1 := 0) (ks1 := 0) (kc' := 0) (ks' := 0) (As := []) (st9 := [.ref o0]) d_TrustDeskModel_part_0_37 lV_TrustDeskModel_230 b137 rfl (mj_enter (by decide) (Nat.le_of_ble_eq_true rfl) ?_) rfl (Nat.le_of_ble_eq_true rfl) (Nat.le_of_ble_eq_true rfl) (Nat.le_of_ble_eq_true rfl) (hst := rfl) (fun _ _ _ h => h)
          refine mv_aload_n d_TrustDeskModel_isWell_0 rfl rfl ?_
          refine tr_getK (k := 19) q135 d_TrustDeskModel_isWell_1 f_TrustDeskModel_224_13 ?_
          have := mz_hi v4
          refine mv_if_neZ (tgt := 11) (a := v4.toInt) d_TrustDeskModel_isWell_4 (by decide) rfl (fun b138 => absurd b138 (by omega)) (fun b138 => ?_)
          refine mv_iconst (v := 1) d_TrustDeskModel_isWell_7 (by decide) ?_
          refine mv_goto (tgt := 12) d_TrustDeskModel_isWell_8 (by decide) ?_
          refine mv_iret d_TrustDeskModel_isWell_12 rfl (by decide) ?_
          refine mv_if_ne_t (tgt := 44) d_TrustDeskModel_part_0_40 (by decide) (by decide) ?_
          refine mv_aload_n d_TrustDeskModel_part_0_44 rfl rfl ?_
          refine mv_bipush (v := 91) d_TrustDeskModel_part_0_45 (by decide) ?_
          obtain ⟨_, b139, -⟩ := I126.1 _ _ t133
          refine mv_callV (kc1 := 0) (ks1 := 0) (kc' := 0) (ks' := 0) (As := [.int 91]) (st9 := [.int 91, .ref o0]) d_TrustDeskModel_part_0_47 lV_TrustDeskModel_234 b139 rfl (mj_enter (by decide) (Nat.le_of_ble_eq_true rfl) ?_) rfl (Nat.le_of_ble_eq_true rfl) (Nat.le_of_ble_eq_true rfl) (Nat.le_of_ble_eq_true rfl) (hst := rfl) (fun _ _ _ h => h)
          refine mv_aload_n d_TrustDeskModel_isSign_0 rfl rfl ?_
          obtain ⟨v141, q140⟩ := tm_atI I126 t133 (k := 17) rfl
          refine tr_getK q140 d_TrustDeskModel_isSign_1 f_TrustDeskModel_198_13 ?_
          have := tm_rv q140
          refine mv_iconst (v := 4) d_TrustDeskModel_isSign_4 (by decide) ?_
          have := mz_hi v141
          refine mv_icmp_neZ (tgt := 20) (a := v141.toInt) (b := 4) d_TrustDeskModel_isSign_5 (by decide) rfl (by decide) (fun b142 => ?_) (fun b142 => ?_)
          · refine mv_iconst (v := 0) d_TrustDeskModel_isSign_20 (by decide) ?_
            refine mv_iret d_TrustDeskModel_isSign_21 rfl (by decide) ?_
            refine mv_if_eq_t (tgt := 80) d_TrustDeskModel_part_0_50 (by decide) (by decide) ?_
            refine mv_aload_n d_TrustDeskModel_part_0_80 rfl rfl ?_
            obtain ⟨_, b149, -⟩ := I126.1 _ _ t133
            refine mv_callV (kc' := 0) (ks' := 0) (As := []) (st9 := [.ref o0]) d_TrustDeskModel_part_0_81 lV_TrustDeskModel_305 b149 rfl (tc_TrustDeskModel_compares_q5_x (d := d) (x9 := x9) (o0 := o0) t133 R131 E134.1 (by have := R131.1 15 _ _ rfl; have := R131.1 16 _ _ rfl; have := R131.1 19 _ _ rfl; have := E134.f yS; omega) (by have := R131.1 15 _ _ rfl; have := R131.1 16 _ _ rfl; have := R131.1 19 _ _ rfl; have := E134.f yS; omega) I126.start) rfl (Nat.le_of_ble_eq_true rfl) (Nat.le_of_ble_eq_true rfl) (Nat.le_of_ble_eq_true rfl) (hst := rfl) (fun b143r M144 n145 b143 => ?_)
            obtain ⟨T146, J147, rfl, R150, f151, f152⟩ := b143
            have I148 := I126.call J147 (tm_sub (by decide)) (Or.inl rfl)
            have t153 := J147.up t133
            have E154 : rE M0 M144 o0 1 (i1_1.toInt + 0) := E134.trans f151 (by decide) (yR.2 5 _ _ rfl 44).1 (by decide) (by omega)
            have := f151.w
            refine mv_iload_n d_TrustDeskModel_part_0_84 rfl rfl ?_
            have := mz_hi i1_1
            refine mv_if_eqZ (tgt := 94) (a := i1_1.toInt) d_TrustDeskModel_part_0_85 (by decide) rfl (fun b155 => ?_) (fun b155 => ?_)
            · exact mv_vret d_TrustDeskModel_part_0_94 rfl ⟨_, I148, rfl, R150, E154.less (by omega), (by have := R150.1 15 _ _ rfl; have := R150.1 16 _ _ rfl; have := R150.1 19 _ _ rfl; have := E154.f yS; omega)⟩
            · refine mv_aload_n d_TrustDeskModel_part_0_88 rfl rfl ?_
              refine mv_bipush (v := (-9)) d_TrustDeskModel_part_0_89 (by decide) ?_
              obtain ⟨_, b162, -⟩ := I148.1 _ _ t153
              refine mv_callV (kc' := 0) (ks' := 0) (As := [.int (-9)]) (st9 := [.int (-9), .ref o0]) d_TrustDeskModel_part_0_91 lV_TrustDeskModel_279 b162 rfl (tc_TrustDeskModel_emits_x (d := (d + 20)) (x9 := x9) (o0 := o0) (x1 := (-9)) t153 R150 (by have := R150.1 15 _ _ rfl; have := R150.1 16 _ _ rfl; have := R150.1 19 _ _ rfl; have := E154.f yS; omega) (by decide) I148.start) rfl (Nat.le_of_ble_eq_true rfl) (Nat.le_of_ble_eq_true rfl) (Nat.le_of_ble_eq_true rfl) (hst := rfl) (fun b156r M157 n158 b156 => ?_)
              obtain ⟨T159, J160, rfl, R163, f164⟩ := b156
              have I161 := I148.call J160 (tm_sub (by decide)) (Or.inl rfl)
              have t165 := J160.up t153
              have := (rv_c I148 J160 (I148.up h_o0) (k := 16) rfl)
              have := (rv_c I148 J160 (I148.up h_o0) (k := 17) rfl)
              have := (rv_c I148 J160 (I148.up h_o0) (k := 19) rfl)
              have := (rv_c I148 J160 (I148.up h_o0) (k := 22) rfl)
              have E166 : rE M0 M157 o0 1 (i1_1.toInt + (-1)) := E154.emit f164 (rE_hv I148 J160 (I148.up h_o0) 15 19 (by decide)) (yR.2 5 _ _ rfl 44).1 (by decide) (Or.inr (Or.inl ⟨by decide, by decide, by decide⟩)) (by omega)
              exact mv_vret d_TrustDeskModel_part_0_94 rfl ⟨_, I161, rfl, R163, E166.less (by omega), (by have := R163.1 15 _ _ rfl; have := R163.1 16 _ _ rfl; have := R163.1 19 _ _ rfl; have := E166.f yS; omega)⟩
          · refine mv_aload_n d_TrustDeskModel_isSign_8 rfl rfl ?_
            obtain ⟨v168, q167⟩ := tm_atI I126 t133 (k := 18) rfl
            refine tr_getK q167 d_TrustDeskModel_isSign_9 f_TrustDeskModel_201_13 ?_
            have := R131.f (k := 18) q167 rfl
            have := tm_rv q167
            refine mv_iload_n d_TrustDeskModel_isSign_12 rfl rfl ?_
            have := mz_hi v168
            refine mv_icmp_neZ (tgt := 20) (a := v168.toInt) (b := 91) d_TrustDeskModel_isSign_13 (by decide) rfl (by decide) (fun b169 => ?_) (fun b169 => ?_)
            · refine mv_iconst (v := 0) d_TrustDeskModel_isSign_20 (by decide) ?_
              refine mv_iret d_TrustDeskModel_isSign_21 rfl (by decide) ?_
              refine mv_if_eq_t (tgt := 80) d_TrustDeskModel_part_0_50 (by decide) (by decide) ?_
              refine mv_aload_n d_TrustDeskModel_part_0_80 rfl rfl ?_
              obtain ⟨_, b176, -⟩ := I126.1 _ _ t133
              refine mv_callV (kc' := 0) (ks' := 0) (As := []) (st9 := [.ref o0]) d_TrustDeskModel_part_0_81 lV_TrustDeskModel_305 b176 rfl (tc_TrustDeskModel_compares_q5_x (d := d) (x9 := x9) (o0 := o0) t133 R131 E134.1 (by have := R131.1 15 _ _ rfl; have := R131.1 16 _ _ rfl; have := R131.1 19 _ _ rfl; have := E134.f yS; omega) (by have := R131.1 15 _ _ rfl; have := R131.1 16 _ _ rfl; have := R131.1 19 _ _ rfl; have := E134.f yS; omega) I126.start) rfl (Nat.le_of_ble_eq_true rfl) (Nat.le_of_ble_eq_true rfl) (Nat.le_of_ble_eq_true rfl) (hst := rfl) (fun b170r M171 n172 b170 => ?_)
              obtain ⟨T173, J174, rfl, R177, f178, f179⟩ := b170
              have I175 := I126.call J174 (tm_sub (by decide)) (Or.inl rfl)
              have t180 := J174.up t133
              have E181 : rE M0 M171 o0 1 (i1_1.toInt + 0) := E134.trans f178 (by decide) (yR.2 5 _ _ rfl 44).1 (by decide) (by omega)
              have := f178.w
              refine mv_iload_n d_TrustDeskModel_part_0_84 rfl rfl ?_
              have := mz_hi i1_1
              refine mv_if_eqZ (tgt := 94) (a := i1_1.toInt) d_TrustDeskModel_part_0_85 (by decide) rfl (fun b182 => ?_) (fun b182 => ?_)
              · exact mv_vret d_TrustDeskModel_part_0_94 rfl ⟨_, I175, rfl, R177, E181.less (by omega), (by have := R177.1 15 _ _ rfl; have := R177.1 16 _ _ rfl; have := R177.1 19 _ _ rfl; have := E181.f yS; omega)⟩
              · refine mv_aload_n d_TrustDeskModel_part_0_88 rfl rfl ?_
                refine mv_bipush (v := (-9)) d_TrustDeskModel_part_0_89 (by decide) ?_
                obtain ⟨_, b189, -⟩ := I175.1 _ _ t180
                refine mv_callV (kc' := 0) (ks' := 0) (As := [.int (-9)]) (st9 := [.int (-9), .ref o0]) d_TrustDeskModel_part_0_91 lV_TrustDeskModel_279 b189 rfl (tc_TrustDeskModel_emits_x (d := (d + 20)) (x9 := x9) (o0 := o0) (x1 := (-9)) t180 R177 (by have := R177.1 15 _ _ rfl; have := R177.1 16 _ _ rfl; have := R177.1 19 _ _ rfl; have := E181.f yS; omega) (by decide) I175.start) rfl (Nat.le_of_ble_eq_true rfl) (Nat.le_of_ble_eq_true rfl) (Nat.le_of_ble_eq_true rfl) (hst := rfl) (fun b183r M184 n185 b183 => ?_)
                obtain ⟨T186, J187, rfl, R190, f191⟩ := b183
                have I188 := I175.call J187 (tm_sub (by decide)) (Or.inl rfl)
                have t192 := J187.up t180
                have := (rv_c I175 J187 (I175.up h_o0) (k := 16) rfl)
                have := (rv_c I175 J187 (I175.up h_o0) (k := 17) rfl)
                have := (rv_c I175 J187 (I175.up h_o0) (k := 19) rfl)
                have := (rv_c I175 J187 (I175.up h_o0) (k := 22) rfl)
                have E193 : rE M0 M184 o0 1 (i1_1.toInt + (-1)) := E181.emit f191 (rE_hv I175 J187 (I175.up h_o0) 15 19 (by decide)) (yR.2 5 _ _ rfl 44).1 (by decide) (Or.inr (Or.inl ⟨by decide, by decide, by decide⟩)) (by omega)
                exact mv_vret d_TrustDeskModel_part_0_94 rfl ⟨_, I188, rfl, R190, E193.less (by omega), (by have := R190.1 15 _ _ rfl; have := R190.1 16 _ _ rfl; have := R190.1 19 _ _ rfl; have := E193.f yS; omega)⟩
            · refine mv_iconst (v := 1) d_TrustDeskModel_isSign_16 (by decide) ?_
              refine mv_goto (tgt := 21) d_TrustDeskModel_isSign_17 (by decide) ?_
              refine mv_iret d_TrustDeskModel_isSign_21 rfl (by decide) ?_
              refine mv_if_eq_f (tgt := 80) d_TrustDeskModel_part_0_50 (by decide) (by decide) ?_
              refine mv_aload_n d_TrustDeskModel_part_0_53 rfl rfl ?_
              obtain ⟨_, b200, -⟩ := I126.1 _ _ t133
              refine mv_callV (kc' := 0) (ks' := 0) (As := []) (st9 := [.ref o0]) d_TrustDeskModel_part_0_54 lV_TrustDeskModel_285 b200 rfl (tc_TrustDeskModel_opens_x (d := (d + 19)) (x9 := x9) (o0 := o0) t133 R131 E134.1 (by have := R131.1 15 _ _ rfl; have := R131.1 16 _ _ rfl; have := R131.1 19 _ _ rfl; have := E134.f yS; omega) (by have := R131.1 15 _ _ rfl; have := R131.1 16 _ _ rfl; have := R131.1 19 _ _ rfl; have := E134.f yS; omega) (by have := R131.1 15 _ _ rfl; have := R131.1 16 _ _ rfl; have := R131.1 19 _ _ rfl; have := E134.f yS; omega) I126.start) rfl (Nat.le_of_ble_eq_true rfl) (Nat.le_of_ble_eq_true rfl) (Nat.le_of_ble_eq_true rfl) (hst := rfl) (fun b194r M195 n196 b194 => ?_)
              obtain ⟨T197, J198, rfl, R201, f202, f203⟩ := b194
              have I199 := I126.call J198 (tm_sub (by decide)) (Or.inl rfl)
              have t204 := J198.up t133
              have E205 : rE M0 M195 o0 0 (i1_1.toInt + 1) := E134.trans f202 (by decide) (yR.2 5 _ _ rfl 44).1 (by decide) (by omega)
              have := f202.w
              refine mv_aload_n d_TrustDeskModel_part_0_57 rfl rfl ?_
              obtain ⟨_, b212, -⟩ := I199.1 _ _ t204
              refine mv_callV (kc' := 0) (ks' := 0) (As := []) (st9 := [.ref o0]) d_TrustDeskModel_part_0_58 lV_TrustDeskModel_302 b212 rfl (tc_TrustDeskModel_cond_q4_x (d := d) (x9 := x9) (o0 := o0) t204 R201 E205.1 (by have := R201.1 15 _ _ rfl; have := R201.1 16 _ _ rfl; have := R201.1 19 _ _ rfl; have := E205.f yS; omega) (by have := R201.1 15 _ _ rfl; have := R201.1 16 _ _ rfl; have := R201.1 19 _ _ rfl; have := E205.f yS; omega) I199.start) rfl (Nat.le_of_ble_eq_true rfl) (Nat.le_of_ble_eq_true rfl) (Nat.le_of_ble_eq_true rfl) (hst := rfl) (fun b206r M207 n208 b206 => ?_)
              obtain ⟨T209, J210, rfl, R213, f214, f215⟩ := b206
              have I211 := I199.call J210 (tm_sub (by decide)) (Or.inl rfl)
              have t216 := J210.up t204
              have E217 : rE M0 M207 o0 1 (i1_1.toInt + 1) := E205.trans f214 (by decide) (yR.2 5 _ _ rfl 44).1 (by decide) (by omega)
              have := f214.w
              refine mv_aload_n d_TrustDeskModel_part_0_61 rfl rfl ?_
              refine mv_bipush (v := 93) d_TrustDeskModel_part_0_62 (by decide) ?_
              obtain ⟨_, b224, -⟩ := I211.1 _ _ t216
              refine mv_callV (kc' := 0) (ks' := 0) (As := [.int 93]) (st9 := [.int 93, .ref o0]) d_TrustDeskModel_part_0_64 lV_TrustDeskModel_291 b224 rfl (tc_TrustDeskModel_wantSign_x (d := (d + 19)) (x9 := x9) (o0 := o0) (x1 := 93) t216 R213 E217.1 (by have := R213.1 15 _ _ rfl; have := R213.1 16 _ _ rfl; have := R213.1 19 _ _ rfl; have := E217.f yS; omega) I211.start) rfl (Nat.le_of_ble_eq_true rfl) (Nat.le_of_ble_eq_true rfl) (Nat.le_of_ble_eq_true rfl) (hst := rfl) (fun b218r M219 n220 b218 => ?_)
              obtain ⟨T221, J222, rfl, R225, f226⟩ := b218
              have I223 := I211.call J222 (tm_sub (by decide)) (Or.inl rfl)
              have t227 := J222.up t216
              have := (rv_c I211 J222 (I211.up h_o0) (k := 22) rfl)
              have E228 : rE M0 M219 o0 1 (i1_1.toInt + 2) := E217.trans f226 (by decide) (yR.2 5 _ _ rfl 44).1 (by decide) (by omega)
              have := f226.w
              refine mv_aload_n d_TrustDeskModel_part_0_67 rfl rfl ?_
              refine mv_dup d_TrustDeskModel_part_0_68 rfl ?_
              obtain ⟨v230, q229⟩ := tm_atI I223 t227 (k := 22) rfl
              refine tr_getK q229 d_TrustDeskModel_part_0_69 f_TrustDeskModel_276_13 ?_
              have := tm_rv q229
              refine mv_iconst (v := 1) d_TrustDeskModel_part_0_72 (by decide) ?_
              refine mv_isub d_TrustDeskModel_part_0_73 ?_
              have : rv M219 o0 19 = 0 → (v230 - 1 : Int32).toInt = v230.toInt - 1 := fun h9 => mz_sub2 rfl (by decide) (by omega) (by omega)
              refine tr_putR (k := 22) I223 R225 t227 rfl ⟨_, rfl⟩ (fun _ h => by cases h) rfl (fun lo hi h => by cases h) (Or.inl (by decide)) d_TrustDeskModel_part_0_74 p_TrustDeskModel_276_13 rfl rfl (fun M231 I232 q233 K234 R235 A236 V237 => ?_)
              have := V237 16 (by decide)
              have := V237 17 (by decide)
              have := V237 19 (by decide)
              have := tm_rv q233
              have E238 : rE M0 M231 o0 1 (i1_1.toInt + 2) := E228.same (fun k h1 h2 => V237 k (by omega)) (fun k h1 h2 => A236 k (by omega))
              refine mv_goto (tgt := 84) d_TrustDeskModel_part_0_77 (by decide) ?_
              refine mv_iload_n d_TrustDeskModel_part_0_84 rfl rfl ?_
              have := mz_hi i1_1
              refine mv_if_eqZ (tgt := 94) (a := i1_1.toInt) d_TrustDeskModel_part_0_85 (by decide) rfl (fun b239 => ?_) (fun b239 => ?_)
              · exact mv_vret d_TrustDeskModel_part_0_94 rfl ⟨_, I232, rfl, R235, E238.less (by omega), (by have := R235.1 15 _ _ rfl; have := R235.1 16 _ _ rfl; have := R235.1 19 _ _ rfl; have := E238.f yS; omega)⟩
              · refine mv_aload_n d_TrustDeskModel_part_0_88 rfl rfl ?_
                refine mv_bipush (v := (-9)) d_TrustDeskModel_part_0_89 (by decide) ?_
                obtain ⟨_, b246, -⟩ := I232.1 _ _ t227
                refine mv_callV (kc' := 0) (ks' := 0) (As := [.int (-9)]) (st9 := [.int (-9), .ref o0]) d_TrustDeskModel_part_0_91 lV_TrustDeskModel_279 b246 rfl (tc_TrustDeskModel_emits_x (d := (d + 20)) (x9 := x9) (o0 := o0) (x1 := (-9)) t227 R235 (by have := R235.1 15 _ _ rfl; have := R235.1 16 _ _ rfl; have := R235.1 19 _ _ rfl; have := E238.f yS; omega) (by decide) I232.start) rfl (Nat.le_of_ble_eq_true rfl) (Nat.le_of_ble_eq_true rfl) (Nat.le_of_ble_eq_true rfl) (hst := rfl) (fun b240r M241 n242 b240 => ?_)
                obtain ⟨T243, J244, rfl, R247, f248⟩ := b240
                have I245 := I232.call J244 (tm_sub (by decide)) (Or.inl rfl)
                have t249 := J244.up t227
                have := (rv_c I232 J244 (I232.up h_o0) (k := 16) rfl)
                have := (rv_c I232 J244 (I232.up h_o0) (k := 17) rfl)
                have := (rv_c I232 J244 (I232.up h_o0) (k := 19) rfl)
                have := (rv_c I232 J244 (I232.up h_o0) (k := 22) rfl)
                have E250 : rE M0 M241 o0 1 (i1_1.toInt + 1) := E238.emit f248 (rE_hv I232 J244 (I232.up h_o0) 15 19 (by decide)) (yR.2 5 _ _ rfl 44).1 (by decide) (Or.inr (Or.inl ⟨by decide, by decide, by decide⟩)) (by omega)
                have q251 := J244.keep t227 (by decide) q233
                exact mv_vret d_TrustDeskModel_part_0_94 rfl ⟨_, I245, rfl, R247, E250.less (by omega), (by have := R247.1 15 _ _ rfl; have := R247.1 16 _ _ rfl; have := R247.1 19 _ _ rfl; have := E250.f yS; omega)⟩
        · refine mv_aload_n d_TrustDeskModel_part_0_19 rfl rfl ?_
          obtain ⟨_, b258, -⟩ := I126.1 _ _ t133
          refine mv_callV (kc' := 0) (ks' := 0) (As := []) (st9 := [.ref o0]) d_TrustDeskModel_part_0_20 lV_TrustDeskModel_237 b258 rfl (tc_TrustDeskModel_next_x (d := (d + 20)) (x9 := x9) (o0 := o0) t133 R131 I126.start) rfl (Nat.le_of_ble_eq_true rfl) (Nat.le_of_ble_eq_true rfl) (Nat.le_of_ble_eq_true rfl) (hst := rfl) (fun b252r M253 n254 b252 => ?_)
          obtain ⟨T255, J256, rfl, R259, f260, f261⟩ := b252
          have I257 := I126.call J256 (tm_sub (by decide)) (Or.inl rfl)
          have t262 := J256.up t133
          have := (rv_c I126 J256 (I126.up h_o0) (k := 19) rfl)
          have := (rv_c I126 J256 (I126.up h_o0) (k := 22) rfl)
          have h264 : rv M122 o0 16 + 1 ≤ rv M122 o0 15 := (by have := R131.1 15 _ _ rfl; have := R131.1 16 _ _ rfl; have := R131.1 19 _ _ rfl; have := E134.f yS; omega)
          have E263 : rE M0 M253 o0 0 (i1_1.toInt + 1) := E134.next f260 f261 (rv_c I126 J256 (I126.up h_o0) (k := 19) rfl) (rE_ha I126 J256 (I126.up h_o0) (by decide)) (e := 1) h264 (by omega)
          have q265 := J256.keep t133 (by decide) q135
          refine mv_iload_n d_TrustDeskModel_part_0_23 rfl rfl ?_
          have := mz_hi i1_1
          refine mv_if_neZ (tgt := 31) (a := i1_1.toInt) d_TrustDeskModel_part_0_24 (by decide) rfl (fun b266 => ?_) (fun b266 => ?_)
          · refine mv_iconst (v := 0) d_TrustDeskModel_part_0_31 (by decide) ?_
            refine mv_istore_n (lv' := [(1, .int 0), (0, .ref o0)]) d_TrustDeskModel_part_0_32 rfl (by decide) rfl ?_
            refine mv_goto (tgt := 2) d_TrustDeskModel_part_0_33 (by decide) ?_
            have E267 : rE M0 M253 o0 0 0 := E263.less (by omega)
            exact (ih1 0 T255 M253 n254 I257 t262 (by have := R259.1 15 _ _ rfl; have := R259.1 16 _ _ rfl; have := R259.1 19 _ _ rfl; have := E267.f yS; first | omega | decide) (by have := R259.1 15 _ _ rfl; have := R259.1 16 _ _ rfl; have := R259.1 19 _ _ rfl; have := E267.f yS; first | omega | decide) (by have := R259.1 15 _ _ rfl; have := R259.1 16 _ _ rfl; have := R259.1 19 _ _ rfl; have := E267.f yS; first | omega | decide) R259 E267 (by have := R259.1 15 _ _ rfl; have := R259.1 16 _ _ rfl; have := R259.1 19 _ _ rfl; have := E267.f yS; omega))
          · refine mv_iconst (v := 1) d_TrustDeskModel_part_0_27 (by decide) ?_
            refine mv_goto (tgt := 32) d_TrustDeskModel_part_0_28 (by decide) ?_
            refine mv_istore_n (lv' := [(1, .int 1), (0, .ref o0)]) d_TrustDeskModel_part_0_32 rfl (by decide) rfl ?_
            refine mv_goto (tgt := 2) d_TrustDeskModel_part_0_33 (by decide) ?_
            have E268 : rE M0 M253 o0 0 1 := E263.less (by omega)
            exact (ih1 1 T255 M253 n254 I257 t262 (by have := R259.1 15 _ _ rfl; have := R259.1 16 _ _ rfl; have := R259.1 19 _ _ rfl; have := E268.f yS; first | omega | decide) (by have := R259.1 15 _ _ rfl; have := R259.1 16 _ _ rfl; have := R259.1 19 _ _ rfl; have := E268.f yS; first | omega | decide) (by have := R259.1 15 _ _ rfl; have := R259.1 16 _ _ rfl; have := R259.1 19 _ _ rfl; have := E268.f yS; first | omega | decide) R259 E268 (by have := R259.1 15 _ _ rfl; have := R259.1 16 _ _ rfl; have := R259.1 19 _ _ rfl; have := E268.f yS; omega))
  exact mv_less (Nat.zero_le _) (Nat.zero_le _) (L2_1 4294967296 0 T0 M0 n0 I0 h_o0 (by have := yR.1 15 _ _ rfl; have := yR.1 16 _ _ rfl; have := yR.1 19 _ _ rfl; have := yE0.f yS; first | omega | decide) (by have := yR.1 15 _ _ rfl; have := yR.1 16 _ _ rfl; have := yR.1 19 _ _ rfl; have := yE0.f yS; first | omega | decide) (by have := yR.1 15 _ _ rfl; have := yR.1 16 _ _ rfl; have := yR.1 19 _ _ rfl; have := yE0.f yS; first | omega | decide) yR yE0 (by have := yR.1 15 _ _ rfl; have := yR.1 16 _ _ rfl; have := yR.1 19 _ _ rfl; have := yE0.f yS; omega))
def w_TrustDeskModel_both_q5_x : List Nat := [1315, 1316, 1317, 1318, 1319, 1320, 1322, 20004, 20005]
theorem tc_TrustDeskModel_both_q5_x {g : mj_G} {l : Launch} {d : Nat} {T0 : tm_H} {M0 : mj_M} {n0 x9 : Nat} {o0 : Nat} (h_o0 : T0 o0 = some (0, 13, 0)) (yR : rI M0 o0) (yT : rT M0 o0) (yS : rv M0 o0 19 = 0 → ra M0 o0 5 44 ≤ rv M0 o0 16) (yL : rv M0 o0 19 ≠ 0 ∨ (0 ≤ rv M0 o0 22 ∧ rv M0 o0 22 ≤ 4)) (I0 : tm_I tm_FT (tm_in w_TrustDeskModel_both_q5_x) x9 T0 M0 n0 T0 M0 n0) : mj_Met g l kY_TrustDeskModel_both (d + 23) [.ref o0] M0 n0 0 0 (tm_Q tm_FT (tm_in w_TrustDeskModel_both_q5_x) x9 T0 M0 n0 (fun r _ M => r = none ∧ rI M o0 ∧ (rE M0 M o0 1 0) ∧ (rv M o0 19 = 0 → rv M o0 22 = rv M0 o0 22))) := by
  refine mj_enter (by decide) (Nat.le_of_ble_eq_true rfl) ?_
  have yE0 := rE.rf yT
  refine mv_aload_n d_TrustDeskModel_both_0 rfl rfl ?_
  obtain ⟨_, b7, -⟩ := I0.1 _ _ h_o0
  refine mv_callV (kc' := 0) (ks' := 0) (As := []) (st9 := [.ref o0]) d_TrustDeskModel_both_1 lV_TrustDeskModel_308 b7 rfl (tc_TrustDeskModel_part_0_q5_x (d := d) (x9 := x9) (o0 := o0) h_o0 yR yE0.1 (by have := yR.1 15 _ _ rfl; have := yR.1 16 _ _ rfl; have := yR.1 19 _ _ rfl; have := yE0.f yS; omega) (by have := yR.1 15 _ _ rfl; have := yR.1 16 _ _ rfl; have := yR.1 19 _ _ rfl; have := yE0.f yS; omega) I0.start) rfl (Nat.le_of_ble_eq_true rfl) (Nat.le_of_ble_eq_true rfl) (Nat.le_of_ble_eq_true rfl) (hst := rfl) (fun b1r M2 n3 b1 => ?_)
  obtain ⟨T4, J5, rfl, R8, f9, f10⟩ := b1
  have I6 := I0.call J5 (tm_sub (by decide)) (Or.inl rfl)
  have t11 := J5.up h_o0
  have E12 : rE M0 M2 o0 1 0 := yE0.trans f9 (by decide) (yR.2 5 _ _ rfl 44).1 (by decide) (by decide)
  have := f9.w
  have L4_13 : ∀ (k : Nat) (T_13 : tm_H) (M_13 : mj_M) (n_13 : Nat), tm_I tm_FT (tm_in w_TrustDeskModel_both_q5_x) x9 T0 M0 n0 T_13 M_13 n_13 → T_13 o0 = some (0, 13, 0) → (rv M_13 o0 19 = 0 → rv M_13 o0 22 = rv M0 o0 22) → (rI M_13 o0) → (rE M0 M_13 o0 1 0) → 5 * (401 - rv M_13 o0 16) - rv M_13 o0 19 < (k : Int) → mj_V g l kY_TrustDeskModel_both (d + 23) 4 [(0, .ref o0)] [] M_13 n_13 0 0 (tm_Q tm_FT (tm_in w_TrustDeskModel_both_q5_x) x9 T0 M0 n0 (fun r _ M => r = none ∧ rI M o0 ∧ (rE M0 M o0 1 0) ∧ (rv M o0 19 = 0 → rv M o0 22 = rv M0 o0 22))) := by
    intro k13
    induction k13 with
    | zero =>
      intro T_13 M_13 n_13 I_13 h_q0_13 iv0_13 kKR_13 kKE_13 hk13
      have := kKR_13.1 15 _ _ rfl
      have := kKR_13.1 16 _ _ rfl
      have := kKR_13.1 19 _ _ rfl
      exfalso; omega
    | succ k13 ih13 =>
      intro T_13 M_13 n_13 I_13 h_q0_13 iv0_13 kKR_13 kKE_13 hk13
      have := kKE_13.f yS
      refine mv_aload_n d_TrustDeskModel_both_4 rfl rfl ?_
      obtain ⟨_, b14, -⟩ := I_13.1 _ _ h_q0_13
      refine mv_callV (kc1 := 0) (ks1 := 0) (kc' := 0) (ks' := 0) (As := []) (st9 := [.ref o0]) d_TrustDeskModel_both_5 lV_TrustDeskModel_230 b14 rfl (mj_enter (by decide) (Nat.le_of_ble_eq_true rfl) ?_) rfl (Nat.le_of_ble_eq_true rfl) (Nat.le_of_ble_eq_true rfl) (Nat.le_of_ble_eq_true rfl) (hst := rfl) (fun _ _ _ h => h)
      refine mv_aload_n d_TrustDeskModel_isWell_0 rfl rfl ?_
      obtain ⟨v16, q15⟩ := tm_atI I_13 h_q0_13 (k := 19) rfl
      refine tr_getK q15 d_TrustDeskModel_isWell_1 f_TrustDeskModel_224_13 ?_
      have := kKR_13.f (k := 19) q15 rfl
      have := tm_rv q15
      have := mz_hi v16
      refine mv_if_neZ (tgt := 11) (a := v16.toInt) d_TrustDeskModel_isWell_4 (by decide) rfl (fun b17 => ?_) (fun b17 => ?_)
      · refine mv_iconst (v := 0) d_TrustDeskModel_isWell_11 (by decide) ?_
        refine mv_iret d_TrustDeskModel_isWell_12 rfl (by decide) ?_
        refine mv_if_eq_t (tgt := 38) d_TrustDeskModel_both_8 (by decide) (by decide) ?_
        exact mv_vret d_TrustDeskModel_both_38 rfl ⟨_, I_13, rfl, kKR_13, kKE_13, (by have := kKR_13.1 15 _ _ rfl; have := kKR_13.1 16 _ _ rfl; have := kKR_13.1 19 _ _ rfl; have := kKE_13.f yS; omega)⟩
      · refine mv_iconst (v := 1) d_TrustDeskModel_isWell_7 (by decide) ?_
        refine mv_goto (tgt := 12) d_TrustDeskModel_isWell_8 (by decide) ?_
        refine mv_iret d_TrustDeskModel_isWell_12 rfl (by decide) ?_
        refine mv_if_eq_f (tgt := 38) d_TrustDeskModel_both_8 (by decide) (by decide) ?_
        refine mv_aload_n d_TrustDeskModel_both_11 rfl rfl ?_
        refine mv_ldcSw (id := 40) (tx := "and") d_TrustDeskModel_both_12 (List.mem_of_getElem? (i := 30) rfl) ?_
        obtain ⟨_, b24, -⟩ := I_13.1 _ _ h_q0_13
        refine mv_callV (kc' := 0) (ks' := 0) (As := [.ref 40]) (st9 := [.ref 40, .ref o0]) d_TrustDeskModel_both_15 lV_TrustDeskModel_244 b24 rfl (tc_TrustDeskModel_isWord_s1_40_x (d := (d + 18)) (x9 := x9) (o0 := o0) h_q0_13 kKR_13 I_13.start) rfl (Nat.le_of_ble_eq_true rfl) (Nat.le_of_ble_eq_true rfl) (Nat.le_of_ble_eq_true rfl) (hst := rfl) (fun b18r M19 n20 b18 => ?_)
        obtain ⟨T21, J22, v25, rfl, b26, b27, R28, f29⟩ := b18
        have I23 := I_13.call J22 (tm_sub (by decide)) (Or.inl rfl)
        have t30 := J22.up h_q0_13
        have := (rv_c I_13 J22 (I_13.up h_o0) (k := 16) rfl)
        have := (rv_c I_13 J22 (I_13.up h_o0) (k := 17) rfl)
        have := (rv_c I_13 J22 (I_13.up h_o0) (k := 19) rfl)
        have := (rv_c I_13 J22 (I_13.up h_o0) (k := 22) rfl)
        have E31 : rE M0 M19 o0 1 0 := kKE_13.same (rE_hv I_13 J22 (I_13.up h_o0) 15 19 (by decide)) (rE_ha I_13 J22 (I_13.up h_o0) (by decide))
        have q32 := J22.keep h_q0_13 (by decide) q15
        have := mz_hi v25
        refine mv_if_eqZ (tgt := 38) (a := v25.toInt) d_TrustDeskModel_both_18 (by decide) rfl (fun b33 => ?_) (fun b33 => ?_)
        · exact mv_vret d_TrustDeskModel_both_38 rfl ⟨_, I23, rfl, R28, E31, (by have := R28.1 15 _ _ rfl; have := R28.1 16 _ _ rfl; have := R28.1 19 _ _ rfl; have := E31.f yS; omega)⟩
        · refine mv_aload_n d_TrustDeskModel_both_21 rfl rfl ?_
          obtain ⟨_, b40, -⟩ := I23.1 _ _ t30
          refine mv_callV (kc' := 0) (ks' := 0) (As := []) (st9 := [.ref o0]) d_TrustDeskModel_both_22 lV_TrustDeskModel_237 b40 rfl (tc_TrustDeskModel_next_x (d := (d + 21)) (x9 := x9) (o0 := o0) t30 R28 I23.start) rfl (Nat.le_of_ble_eq_true rfl) (Nat.le_of_ble_eq_true rfl) (Nat.le_of_ble_eq_true rfl) (hst := rfl) (fun b34r M35 n36 b34 => ?_)
          obtain ⟨T37, J38, rfl, R41, f42, f43⟩ := b34
          have I39 := I23.call J38 (tm_sub (by decide)) (Or.inl rfl)
          have t44 := J38.up t30
          have := (rv_c I23 J38 (I23.up h_o0) (k := 19) rfl)
          have := (rv_c I23 J38 (I23.up h_o0) (k := 22) rfl)
          have h46 : rv M19 o0 16 + 1 ≤ rv M19 o0 15 := (by have := R28.1 15 _ _ rfl; have := R28.1 16 _ _ rfl; have := R28.1 19 _ _ rfl; have := E31.f yS; omega)
          have E45 : rE M0 M35 o0 1 1 := E31.next f42 f43 (rv_c I23 J38 (I23.up h_o0) (k := 19) rfl) (rE_ha I23 J38 (I23.up h_o0) (by decide)) (e := 1) h46 (by decide)
          have q47 := J38.keep t30 (by decide) q32
          refine mv_aload_n d_TrustDeskModel_both_25 rfl rfl ?_
          obtain ⟨_, b54, -⟩ := I39.1 _ _ t44
          refine mv_callV (kc' := 0) (ks' := 0) (As := []) (st9 := [.ref o0]) d_TrustDeskModel_both_26 lV_TrustDeskModel_308 b54 rfl (tc_TrustDeskModel_part_0_q5_x (d := d) (x9 := x9) (o0 := o0) t44 R41 E45.1 (by have := R41.1 15 _ _ rfl; have := R41.1 16 _ _ rfl; have := R41.1 19 _ _ rfl; have := E45.f yS; omega) (by have := R41.1 15 _ _ rfl; have := R41.1 16 _ _ rfl; have := R41.1 19 _ _ rfl; have := E45.f yS; omega) I39.start) rfl (Nat.le_of_ble_eq_true rfl) (Nat.le_of_ble_eq_true rfl) (Nat.le_of_ble_eq_true rfl) (hst := rfl) (fun b48r M49 n50 b48 => ?_)
          obtain ⟨T51, J52, rfl, R55, f56, f57⟩ := b48
          have I53 := I39.call J52 (tm_sub (by decide)) (Or.inl rfl)
          have t58 := J52.up t44
          have E59 : rE M0 M49 o0 2 1 := E45.trans f56 (by decide) (yR.2 5 _ _ rfl 44).1 (by decide) (by decide)
          have := f56.w
          refine mv_aload_n d_TrustDeskModel_both_29 rfl rfl ?_
          refine mv_bipush (v := (-7)) d_TrustDeskModel_both_30 (by decide) ?_
          obtain ⟨_, b66, -⟩ := I53.1 _ _ t58
          refine mv_callV (kc' := 0) (ks' := 0) (As := [.int (-7)]) (st9 := [.int (-7), .ref o0]) d_TrustDeskModel_both_32 lV_TrustDeskModel_279 b66 rfl (tc_TrustDeskModel_emits_x (d := (d + 21)) (x9 := x9) (o0 := o0) (x1 := (-7)) t58 R55 (by have := R55.1 15 _ _ rfl; have := R55.1 16 _ _ rfl; have := R55.1 19 _ _ rfl; have := E59.f yS; omega) (by decide) I53.start) rfl (Nat.le_of_ble_eq_true rfl) (Nat.le_of_ble_eq_true rfl) (Nat.le_of_ble_eq_true rfl) (hst := rfl) (fun b60r M61 n62 b60 => ?_)
          obtain ⟨T63, J64, rfl, R67, f68⟩ := b60
          have I65 := I53.call J64 (tm_sub (by decide)) (Or.inl rfl)
          have t69 := J64.up t58
          have := (rv_c I53 J64 (I53.up h_o0) (k := 16) rfl)
          have := (rv_c I53 J64 (I53.up h_o0) (k := 17) rfl)
          have := (rv_c I53 J64 (I53.up h_o0) (k := 19) rfl)
          have := (rv_c I53 J64 (I53.up h_o0) (k := 22) rfl)
          have E70 : rE M0 M61 o0 1 0 := E59.emit f68 (rE_hv I53 J64 (I53.up h_o0) 15 19 (by decide)) (yR.2 5 _ _ rfl 44).1 (by decide) (Or.inr (Or.inr ⟨by decide, by decide, by decide, by decide⟩)) (by decide)
          refine mv_goto (tgt := 4) d_TrustDeskModel_both_35 (by decide) ?_
          exact (ih13 T63 M61 n62 I65 t69 (by have := R67.1 15 _ _ rfl; have := R67.1 16 _ _ rfl; have := R67.1 19 _ _ rfl; have := E70.f yS; first | omega | decide) R67 E70 (by have := R67.1 15 _ _ rfl; have := R67.1 16 _ _ rfl; have := R67.1 19 _ _ rfl; have := E70.f yS; omega))
  exact mv_less (Nat.zero_le _) (Nat.zero_le _) (L4_13 4294967296 T4 M2 n3 I6 t11 (by have := R8.1 15 _ _ rfl; have := R8.1 16 _ _ rfl; have := R8.1 19 _ _ rfl; have := E12.f yS; first | omega | decide) R8 E12 (by have := R8.1 15 _ _ rfl; have := R8.1 16 _ _ rfl; have := R8.1 19 _ _ rfl; have := E12.f yS; omega))
def w_TrustDeskModel_cond_q5_x : List Nat := [1315, 1316, 1317, 1318, 1319, 1320, 1322, 20004, 20005]
theorem tc_TrustDeskModel_cond_q5_x {g : mj_G} {l : Launch} {d : Nat} {T0 : tm_H} {M0 : mj_M} {n0 x9 : Nat} {o0 : Nat} (h_o0 : T0 o0 = some (0, 13, 0)) (yR : rI M0 o0) (yT : rT M0 o0) (yS : rv M0 o0 19 = 0 → ra M0 o0 5 44 ≤ rv M0 o0 16) (yL : rv M0 o0 19 ≠ 0 ∨ (0 ≤ rv M0 o0 22 ∧ rv M0 o0 22 ≤ 4)) (I0 : tm_I tm_FT (tm_in w_TrustDeskModel_cond_q5_x) x9 T0 M0 n0 T0 M0 n0) : mj_Met g l kY_TrustDeskModel_cond (d + 24) [.ref o0] M0 n0 0 0 (tm_Q tm_FT (tm_in w_TrustDeskModel_cond_q5_x) x9 T0 M0 n0 (fun r _ M => r = none ∧ rI M o0 ∧ (rE M0 M o0 1 0) ∧ (rv M o0 19 = 0 → rv M o0 22 = rv M0 o0 22))) := by
  refine mj_enter (by decide) (Nat.le_of_ble_eq_true rfl) ?_
  have yE0 := rE.rf yT
  refine mv_aload_n d_TrustDeskModel_cond_0 rfl rfl ?_
  obtain ⟨_, b7, -⟩ := I0.1 _ _ h_o0
  refine mv_callV (kc' := 0) (ks' := 0) (As := []) (st9 := [.ref o0]) d_TrustDeskModel_cond_1 lV_TrustDeskModel_312 b7 rfl (tc_TrustDeskModel_both_q5_x (d := d) (x9 := x9) (o0 := o0) h_o0 yR yE0.1 (by have := yR.1 15 _ _ rfl; have := yR.1 16 _ _ rfl; have := yR.1 19 _ _ rfl; have := yE0.f yS; omega) (by have := yR.1 15 _ _ rfl; have := yR.1 16 _ _ rfl; have := yR.1 19 _ _ rfl; have := yE0.f yS; omega) I0.start) rfl (Nat.le_of_ble_eq_true rfl) (Nat.le_of_ble_eq_true rfl) (Nat.le_of_ble_eq_true rfl) (hst := rfl) (fun b1r M2 n3 b1 => ?_)
  obtain ⟨T4, J5, rfl, R8, f9, f10⟩ := b1
  have I6 := I0.call J5 (tm_sub (by decide)) (Or.inl rfl)
  have t11 := J5.up h_o0
  have E12 : rE M0 M2 o0 1 0 := yE0.trans f9 (by decide) (yR.2 5 _ _ rfl 44).1 (by decide) (by decide)
  have := f9.w
  have L4_13 : ∀ (k : Nat) (T_13 : tm_H) (M_13 : mj_M) (n_13 : Nat), tm_I tm_FT (tm_in w_TrustDeskModel_cond_q5_x) x9 T0 M0 n0 T_13 M_13 n_13 → T_13 o0 = some (0, 13, 0) → (rv M_13 o0 19 = 0 → rv M_13 o0 22 = rv M0 o0 22) → (rI M_13 o0) → (rE M0 M_13 o0 1 0) → 5 * (401 - rv M_13 o0 16) - rv M_13 o0 19 < (k : Int) → mj_V g l kY_TrustDeskModel_cond (d + 24) 4 [(0, .ref o0)] [] M_13 n_13 0 0 (tm_Q tm_FT (tm_in w_TrustDeskModel_cond_q5_x) x9 T0 M0 n0 (fun r _ M => r = none ∧ rI M o0 ∧ (rE M0 M o0 1 0) ∧ (rv M o0 19 = 0 → rv M o0 22 = rv M0 o0 22))) := by
    intro k13
    induction k13 with
    | zero =>
      intro T_13 M_13 n_13 I_13 h_q0_13 iv0_13 kKR_13 kKE_13 hk13
      have := kKR_13.1 15 _ _ rfl
      have := kKR_13.1 16 _ _ rfl
      have := kKR_13.1 19 _ _ rfl
      exfalso; omega
    | succ k13 ih13 =>
      intro T_13 M_13 n_13 I_13 h_q0_13 iv0_13 kKR_13 kKE_13 hk13
      have := kKE_13.f yS
      refine mv_aload_n d_TrustDeskModel_cond_4 rfl rfl ?_
      obtain ⟨_, b14, -⟩ := I_13.1 _ _ h_q0_13
      refine mv_callV (kc1 := 0) (ks1 := 0) (kc' := 0) (ks' := 0) (As := []) (st9 := [.ref o0]) d_TrustDeskModel_cond_5 lV_TrustDeskModel_230 b14 rfl (mj_enter (by decide) (Nat.le_of_ble_eq_true rfl) ?_) rfl (Nat.le_of_ble_eq_true rfl) (Nat.le_of_ble_eq_true rfl) (Nat.le_of_ble_eq_true rfl) (hst := rfl) (fun _ _ _ h => h)
      refine mv_aload_n d_TrustDeskModel_isWell_0 rfl rfl ?_
      obtain ⟨v16, q15⟩ := tm_atI I_13 h_q0_13 (k := 19) rfl
      refine tr_getK q15 d_TrustDeskModel_isWell_1 f_TrustDeskModel_224_13 ?_
      have := kKR_13.f (k := 19) q15 rfl
      have := tm_rv q15
      have := mz_hi v16
      refine mv_if_neZ (tgt := 11) (a := v16.toInt) d_TrustDeskModel_isWell_4 (by decide) rfl (fun b17 => ?_) (fun b17 => ?_)
      · refine mv_iconst (v := 0) d_TrustDeskModel_isWell_11 (by decide) ?_
        refine mv_iret d_TrustDeskModel_isWell_12 rfl (by decide) ?_
        refine mv_if_eq_t (tgt := 38) d_TrustDeskModel_cond_8 (by decide) (by decide) ?_
        exact mv_vret d_TrustDeskModel_cond_38 rfl ⟨_, I_13, rfl, kKR_13, kKE_13, (by have := kKR_13.1 15 _ _ rfl; have := kKR_13.1 16 _ _ rfl; have := kKR_13.1 19 _ _ rfl; have := kKE_13.f yS; omega)⟩
      · refine mv_iconst (v := 1) d_TrustDeskModel_isWell_7 (by decide) ?_
        refine mv_goto (tgt := 12) d_TrustDeskModel_isWell_8 (by decide) ?_
        refine mv_iret d_TrustDeskModel_isWell_12 rfl (by decide) ?_
        refine mv_if_eq_f (tgt := 38) d_TrustDeskModel_cond_8 (by decide) (by decide) ?_
        refine mv_aload_n d_TrustDeskModel_cond_11 rfl rfl ?_
        refine mv_ldcSw (id := 41) (tx := "or") d_TrustDeskModel_cond_12 (List.mem_of_getElem? (i := 31) rfl) ?_
        obtain ⟨_, b24, -⟩ := I_13.1 _ _ h_q0_13
        refine mv_callV (kc' := 0) (ks' := 0) (As := [.ref 41]) (st9 := [.ref 41, .ref o0]) d_TrustDeskModel_cond_15 lV_TrustDeskModel_244 b24 rfl (tc_TrustDeskModel_isWord_s1_41_x (d := (d + 19)) (x9 := x9) (o0 := o0) h_q0_13 kKR_13 I_13.start) rfl (Nat.le_of_ble_eq_true rfl) (Nat.le_of_ble_eq_true rfl) (Nat.le_of_ble_eq_true rfl) (hst := rfl) (fun b18r M19 n20 b18 => ?_)
        obtain ⟨T21, J22, v25, rfl, b26, b27, R28, f29⟩ := b18
        have I23 := I_13.call J22 (tm_sub (by decide)) (Or.inl rfl)
        have t30 := J22.up h_q0_13
        have := (rv_c I_13 J22 (I_13.up h_o0) (k := 16) rfl)
        have := (rv_c I_13 J22 (I_13.up h_o0) (k := 17) rfl)
        have := (rv_c I_13 J22 (I_13.up h_o0) (k := 19) rfl)
        have := (rv_c I_13 J22 (I_13.up h_o0) (k := 22) rfl)
        have E31 : rE M0 M19 o0 1 0 := kKE_13.same (rE_hv I_13 J22 (I_13.up h_o0) 15 19 (by decide)) (rE_ha I_13 J22 (I_13.up h_o0) (by decide))
        have q32 := J22.keep h_q0_13 (by decide) q15
        have := mz_hi v25
        refine mv_if_eqZ (tgt := 38) (a := v25.toInt) d_TrustDeskModel_cond_18 (by decide) rfl (fun b33 => ?_) (fun b33 => ?_)
        · exact mv_vret d_TrustDeskModel_cond_38 rfl ⟨_, I23, rfl, R28, E31, (by have := R28.1 15 _ _ rfl; have := R28.1 16 _ _ rfl; have := R28.1 19 _ _ rfl; have := E31.f yS; omega)⟩
        · refine mv_aload_n d_TrustDeskModel_cond_21 rfl rfl ?_
          obtain ⟨_, b40, -⟩ := I23.1 _ _ t30
          refine mv_callV (kc' := 0) (ks' := 0) (As := []) (st9 := [.ref o0]) d_TrustDeskModel_cond_22 lV_TrustDeskModel_237 b40 rfl (tc_TrustDeskModel_next_x (d := (d + 22)) (x9 := x9) (o0 := o0) t30 R28 I23.start) rfl (Nat.le_of_ble_eq_true rfl) (Nat.le_of_ble_eq_true rfl) (Nat.le_of_ble_eq_true rfl) (hst := rfl) (fun b34r M35 n36 b34 => ?_)
          obtain ⟨T37, J38, rfl, R41, f42, f43⟩ := b34
          have I39 := I23.call J38 (tm_sub (by decide)) (Or.inl rfl)
          have t44 := J38.up t30
          have := (rv_c I23 J38 (I23.up h_o0) (k := 19) rfl)
          have := (rv_c I23 J38 (I23.up h_o0) (k := 22) rfl)
          have h46 : rv M19 o0 16 + 1 ≤ rv M19 o0 15 := (by have := R28.1 15 _ _ rfl; have := R28.1 16 _ _ rfl; have := R28.1 19 _ _ rfl; have := E31.f yS; omega)
          have E45 : rE M0 M35 o0 1 1 := E31.next f42 f43 (rv_c I23 J38 (I23.up h_o0) (k := 19) rfl) (rE_ha I23 J38 (I23.up h_o0) (by decide)) (e := 1) h46 (by decide)
          have q47 := J38.keep t30 (by decide) q32
          refine mv_aload_n d_TrustDeskModel_cond_25 rfl rfl ?_
          obtain ⟨_, b54, -⟩ := I39.1 _ _ t44
          refine mv_callV (kc' := 0) (ks' := 0) (As := []) (st9 := [.ref o0]) d_TrustDeskModel_cond_26 lV_TrustDeskModel_312 b54 rfl (tc_TrustDeskModel_both_q5_x (d := d) (x9 := x9) (o0 := o0) t44 R41 E45.1 (by have := R41.1 15 _ _ rfl; have := R41.1 16 _ _ rfl; have := R41.1 19 _ _ rfl; have := E45.f yS; omega) (by have := R41.1 15 _ _ rfl; have := R41.1 16 _ _ rfl; have := R41.1 19 _ _ rfl; have := E45.f yS; omega) I39.start) rfl (Nat.le_of_ble_eq_true rfl) (Nat.le_of_ble_eq_true rfl) (Nat.le_of_ble_eq_true rfl) (hst := rfl) (fun b48r M49 n50 b48 => ?_)
          obtain ⟨T51, J52, rfl, R55, f56, f57⟩ := b48
          have I53 := I39.call J52 (tm_sub (by decide)) (Or.inl rfl)
          have t58 := J52.up t44
          have E59 : rE M0 M49 o0 2 1 := E45.trans f56 (by decide) (yR.2 5 _ _ rfl 44).1 (by decide) (by decide)
          have := f56.w
          refine mv_aload_n d_TrustDeskModel_cond_29 rfl rfl ?_
          refine mv_bipush (v := (-8)) d_TrustDeskModel_cond_30 (by decide) ?_
          obtain ⟨_, b66, -⟩ := I53.1 _ _ t58
          refine mv_callV (kc' := 0) (ks' := 0) (As := [.int (-8)]) (st9 := [.int (-8), .ref o0]) d_TrustDeskModel_cond_32 lV_TrustDeskModel_279 b66 rfl (tc_TrustDeskModel_emits_x (d := (d + 22)) (x9 := x9) (o0 := o0) (x1 := (-8)) t58 R55 (by have := R55.1 15 _ _ rfl; have := R55.1 16 _ _ rfl; have := R55.1 19 _ _ rfl; have := E59.f yS; omega) (by decide) I53.start) rfl (Nat.le_of_ble_eq_true rfl) (Nat.le_of_ble_eq_true rfl) (Nat.le_of_ble_eq_true rfl) (hst := rfl) (fun b60r M61 n62 b60 => ?_)
          obtain ⟨T63, J64, rfl, R67, f68⟩ := b60
          have I65 := I53.call J64 (tm_sub (by decide)) (Or.inl rfl)
          have t69 := J64.up t58
          have := (rv_c I53 J64 (I53.up h_o0) (k := 16) rfl)
          have := (rv_c I53 J64 (I53.up h_o0) (k := 17) rfl)
          have := (rv_c I53 J64 (I53.up h_o0) (k := 19) rfl)
          have := (rv_c I53 J64 (I53.up h_o0) (k := 22) rfl)
          have E70 : rE M0 M61 o0 1 0 := E59.emit f68 (rE_hv I53 J64 (I53.up h_o0) 15 19 (by decide)) (yR.2 5 _ _ rfl 44).1 (by decide) (Or.inr (Or.inr ⟨by decide, by decide, by decide, by decide⟩)) (by decide)
          refine mv_goto (tgt := 4) d_TrustDeskModel_cond_35 (by decide) ?_
          exact (ih13 T63 M61 n62 I65 t69 (by have := R67.1 15 _ _ rfl; have := R67.1 16 _ _ rfl; have := R67.1 19 _ _ rfl; have := E70.f yS; first | omega | decide) R67 E70 (by have := R67.1 15 _ _ rfl; have := R67.1 16 _ _ rfl; have := R67.1 19 _ _ rfl; have := E70.f yS; omega))
  exact mv_less (Nat.zero_le _) (Nat.zero_le _) (L4_13 4294967296 T4 M2 n3 I6 t11 (by have := R8.1 15 _ _ rfl; have := R8.1 16 _ _ rfl; have := R8.1 19 _ _ rfl; have := E12.f yS; first | omega | decide) R8 E12 (by have := R8.1 15 _ _ rfl; have := R8.1 16 _ _ rfl; have := R8.1 19 _ _ rfl; have := E12.f yS; omega))
