abbrev kY_TrustDeskModel_number : mj_Y := (⟨"TrustDeskModel", "number", "(II)I"⟩, prog_14_method_33_code, 4, (Option.some Jvm.ClassFile.FieldType.int))
theorem d_TrustDeskModel_number_0 : decode kY_TrustDeskModel_number.2.1 0 = .ok (.aload_n 0, 1) := by decide +kernel
theorem d_TrustDeskModel_number_1 : decode kY_TrustDeskModel_number.2.1 1 = .ok (.invokevirtual 230, 3) := by decide +kernel
theorem d_TrustDeskModel_number_4 : decode kY_TrustDeskModel_number.2.1 4 = .ok (.ifCond .eq 16, 3) := by decide +kernel
theorem d_TrustDeskModel_number_20 : decode kY_TrustDeskModel_number.2.1 20 = .ok (.aload_n 0, 1) := by decide +kernel
theorem d_TrustDeskModel_number_21 : decode kY_TrustDeskModel_number.2.1 21 = .ok (.invokevirtual 230, 3) := by decide +kernel
theorem d_TrustDeskModel_number_24 : decode kY_TrustDeskModel_number.2.1 24 = .ok (.ifCond .eq 23, 3) := by decide +kernel
theorem d_TrustDeskModel_number_47 : decode kY_TrustDeskModel_number.2.1 47 = .ok (.aload_n 0, 1) := by decide +kernel
theorem d_TrustDeskModel_number_48 : decode kY_TrustDeskModel_number.2.1 48 = .ok (.invokevirtual 230, 3) := by decide +kernel
theorem d_TrustDeskModel_number_51 : decode kY_TrustDeskModel_number.2.1 51 = .ok (.ifCond .ne 5, 3) := by decide +kernel
theorem d_TrustDeskModel_number_54 : decode kY_TrustDeskModel_number.2.1 54 = .ok (.iconst 0, 1) := by decide +kernel
theorem d_TrustDeskModel_number_55 : decode kY_TrustDeskModel_number.2.1 55 = .ok (.ireturn, 1) := by decide +kernel
theorem d_TrustDeskModel_number_7 : decode kY_TrustDeskModel_number.2.1 7 = .ok (.aload_n 0, 1) := by decide +kernel
theorem d_TrustDeskModel_number_8 : decode kY_TrustDeskModel_number.2.1 8 = .ok (.getfield 198, 3) := by decide +kernel
theorem d_TrustDeskModel_number_11 : decode kY_TrustDeskModel_number.2.1 11 = .ok (.iconst 2, 1) := by decide +kernel
theorem d_TrustDeskModel_number_12 : decode kY_TrustDeskModel_number.2.1 12 = .ok (.if_icmp .eq 8, 3) := by decide +kernel
theorem d_TrustDeskModel_number_27 : decode kY_TrustDeskModel_number.2.1 27 = .ok (.aload_n 0, 1) := by decide +kernel
theorem d_TrustDeskModel_number_28 : decode kY_TrustDeskModel_number.2.1 28 = .ok (.getfield 201, 3) := by decide +kernel
theorem d_TrustDeskModel_number_31 : decode kY_TrustDeskModel_number.2.1 31 = .ok (.i2l, 1) := by decide +kernel
theorem d_TrustDeskModel_number_32 : decode kY_TrustDeskModel_number.2.1 32 = .ok (.iload_n 1, 1) := by decide +kernel
theorem d_TrustDeskModel_number_33 : decode kY_TrustDeskModel_number.2.1 33 = .ok (.i2l, 1) := by decide +kernel
theorem d_TrustDeskModel_number_34 : decode kY_TrustDeskModel_number.2.1 34 = .ok (.iload_n 2, 1) := by decide +kernel
theorem d_TrustDeskModel_number_35 : decode kY_TrustDeskModel_number.2.1 35 = .ok (.i2l, 1) := by decide +kernel
theorem d_TrustDeskModel_number_36 : decode kY_TrustDeskModel_number.2.1 36 = .ok (.invokestatic 169, 3) := by decide +kernel
abbrev kY_TrustDeskModel_within : mj_Y := (⟨"TrustDeskModel", "within", "(JJJ)Z"⟩, prog_14_method_2_code, 6, (Option.some Jvm.ClassFile.FieldType.boolean))
theorem lS_TrustDeskModel_169 : mj_lS "TrustDeskModel" 169 kY_TrustDeskModel_within 3 := ⟨⟨(mj_in1 (List.mem_of_getElem? (i := 1608) (by decide +kernel)) rfl), (mj_in1 (List.mem_of_getElem? (i := 10) (by decide +kernel)) rfl), (mj_in1 (List.mem_of_getElem? (i := 1610) (by decide +kernel)) rfl), by decide, rfl, by decide⟩, (mj_in1 (List.mem_of_getElem? (i := 1609) (by decide +kernel)) rfl)⟩
theorem d_TrustDeskModel_within_0 : decode kY_TrustDeskModel_within.2.1 0 = .ok (.lload_n 0, 1) := by decide +kernel
theorem d_TrustDeskModel_within_1 : decode kY_TrustDeskModel_within.2.1 1 = .ok (.lload_n 2, 1) := by decide +kernel
theorem d_TrustDeskModel_within_2 : decode kY_TrustDeskModel_within.2.1 2 = .ok (.lcmp, 1) := by decide +kernel
theorem d_TrustDeskModel_within_3 : decode kY_TrustDeskModel_within.2.1 3 = .ok (.ifCond .lt 14, 3) := by decide +kernel
theorem d_TrustDeskModel_within_17 : decode kY_TrustDeskModel_within.2.1 17 = .ok (.iconst 0, 1) := by decide +kernel
theorem d_TrustDeskModel_within_18 : decode kY_TrustDeskModel_within.2.1 18 = .ok (.ireturn, 1) := by decide +kernel
theorem d_TrustDeskModel_number_39 : decode kY_TrustDeskModel_number.2.1 39 = .ok (.ifCond .ne 8, 3) := by decide +kernel
theorem d_TrustDeskModel_number_42 : decode kY_TrustDeskModel_number.2.1 42 = .ok (.aload_n 0, 1) := by decide +kernel
theorem d_TrustDeskModel_number_43 : decode kY_TrustDeskModel_number.2.1 43 = .ok (.iconst 2, 1) := by decide +kernel
theorem d_TrustDeskModel_number_44 : decode kY_TrustDeskModel_number.2.1 44 = .ok (.invokevirtual 240, 3) := by decide +kernel
theorem d_TrustDeskModel_within_6 : decode kY_TrustDeskModel_within.2.1 6 = .ok (.lload_n 0, 1) := by decide +kernel
theorem d_TrustDeskModel_within_7 : decode kY_TrustDeskModel_within.2.1 7 = .ok (.lload 4, 2) := by decide +kernel
theorem d_TrustDeskModel_within_9 : decode kY_TrustDeskModel_within.2.1 9 = .ok (.lcmp, 1) := by decide +kernel
theorem d_TrustDeskModel_within_10 : decode kY_TrustDeskModel_within.2.1 10 = .ok (.ifCond .gt 7, 3) := by decide +kernel
theorem d_TrustDeskModel_within_13 : decode kY_TrustDeskModel_within.2.1 13 = .ok (.iconst 1, 1) := by decide +kernel
theorem d_TrustDeskModel_within_14 : decode kY_TrustDeskModel_within.2.1 14 = .ok (.goto 4, 3) := by decide +kernel
theorem d_TrustDeskModel_number_56 : decode kY_TrustDeskModel_number.2.1 56 = .ok (.aload_n 0, 1) := by decide +kernel
theorem d_TrustDeskModel_number_57 : decode kY_TrustDeskModel_number.2.1 57 = .ok (.getfield 201, 3) := by decide +kernel
theorem d_TrustDeskModel_number_60 : decode kY_TrustDeskModel_number.2.1 60 = .ok (.istore_n 3, 1) := by decide +kernel
theorem d_TrustDeskModel_number_61 : decode kY_TrustDeskModel_number.2.1 61 = .ok (.aload_n 0, 1) := by decide +kernel
theorem d_TrustDeskModel_number_62 : decode kY_TrustDeskModel_number.2.1 62 = .ok (.invokevirtual 237, 3) := by decide +kernel
theorem d_TrustDeskModel_number_65 : decode kY_TrustDeskModel_number.2.1 65 = .ok (.iload_n 3, 1) := by decide +kernel
theorem d_TrustDeskModel_number_66 : decode kY_TrustDeskModel_number.2.1 66 = .ok (.ireturn, 1) := by decide +kernel
theorem d_TrustDeskModel_number_15 : decode kY_TrustDeskModel_number.2.1 15 = .ok (.aload_n 0, 1) := by decide +kernel
theorem d_TrustDeskModel_number_16 : decode kY_TrustDeskModel_number.2.1 16 = .ok (.iconst 1, 1) := by decide +kernel
theorem d_TrustDeskModel_number_17 : decode kY_TrustDeskModel_number.2.1 17 = .ok (.invokevirtual 240, 3) := by decide +kernel
def w_TrustDeskModel_number_x : List Nat := [1315, 1316, 1317, 1318, 1319, 1320]
set_option maxHeartbeats 100000000 in theorem tc_TrustDeskModel_number_x {g : mj_G} {l : Launch} {d : Nat} {T0 : tm_H} {M0 : mj_M} {n0 x9 : Nat} {o0 : Nat} {x1 : Int32} {x2 : Int32} (h_o0 : T0 o0 = some (0, 13, 0)) (yR : rI M0 o0) (yT : rT M0 o0) (yS : rv M0 o0 19 = 0 → ra M0 o0 5 44 ≤ rv M0 o0 16) {pb : Nat → Int} {pn : Nat} {pa : Int} {ps : p_S} (yO : pO M0 o0 pb pn pa ps) (I0 : tm_I tm_FT (tm_in w_TrustDeskModel_number_x) x9 T0 M0 n0 T0 M0 n0) : mj_Met g l kY_TrustDeskModel_number (d + 2) [.ref o0, .int x1, .int x2] M0 n0 0 0 (tm_Q tm_FT (tm_in w_TrustDeskModel_number_x) x9 T0 M0 n0 (fun r _ M => ∃ v : Int32, r = some (.int v) ∧ rI M o0 ∧ (rE M0 M o0 0 1) ∧ (v.toInt = 0 ∨ (x1.toInt ≤ v.toInt ∧ v.toInt ≤ x2.toInt)) ∧ (pO M o0 pb pn pa (p_num pb pn x1.toInt x2.toInt ps)) ∧ (rv M o0 19 = 0 → v.toInt = p_nm pb pn ps.2.2))) := by
  refine mj_enter (by decide) (Nat.le_of_ble_eq_true rfl) ?_
  have yE0 := rE.rf yT
  have := yO.w
  refine mv_aload_n d_TrustDeskModel_number_0 rfl rfl ?_
  obtain ⟨_, b1, -⟩ := I0.1 _ _ h_o0
  refine mv_callV (kc1 := 0) (ks1 := 0) (kc' := 0) (ks' := 0) (As := []) (st9 := [.ref o0]) d_TrustDeskModel_number_1 lV_TrustDeskModel_230 b1 rfl (mj_enter (by decide) (Nat.le_of_ble_eq_true rfl) ?_) rfl (Nat.le_of_ble_eq_true rfl) (Nat.le_of_ble_eq_true rfl) (Nat.le_of_ble_eq_true rfl) (hst := rfl) (fun _ _ _ h => h)
  refine mv_aload_n d_TrustDeskModel_isWell_0 rfl rfl ?_
  obtain ⟨v3, q2⟩ := tm_atI I0 h_o0 (k := 19) rfl
  refine tr_getK q2 d_TrustDeskModel_isWell_1 f_TrustDeskModel_224_13 ?_
  have := yR.f (k := 19) q2 rfl
  have := tm_rv q2
  have := mz_hi v3
  refine mv_if_neZ (tgt := 11) (a := v3.toInt) d_TrustDeskModel_isWell_4 (by decide) rfl (fun b4 => ?_) (fun b4 => ?_)
  · refine mv_iconst (v := 0) d_TrustDeskModel_isWell_11 (by decide) ?_
    refine mv_iret d_TrustDeskModel_isWell_12 rfl (by decide) ?_
    refine mv_if_eq_t (tgt := 20) d_TrustDeskModel_number_4 (by decide) (by decide) ?_
    refine mv_aload_n d_TrustDeskModel_number_20 rfl rfl ?_
    obtain ⟨_, b5, -⟩ := I0.1 _ _ h_o0
    refine mv_callV (kc1 := 0) (ks1 := 0) (kc' := 0) (ks' := 0) (As := []) (st9 := [.ref o0]) d_TrustDeskModel_number_21 lV_TrustDeskModel_230 b5 rfl (mj_enter (by decide) (Nat.le_of_ble_eq_true rfl) ?_) rfl (Nat.le_of_ble_eq_true rfl) (Nat.le_of_ble_eq_true rfl) (Nat.le_of_ble_eq_true rfl) (hst := rfl) (fun _ _ _ h => h)
    refine mv_aload_n d_TrustDeskModel_isWell_0 rfl rfl ?_
    refine tr_getK (k := 19) q2 d_TrustDeskModel_isWell_1 f_TrustDeskModel_224_13 ?_
    have := mz_hi v3
    refine mv_if_neZ (tgt := 11) (a := v3.toInt) d_TrustDeskModel_isWell_4 (by decide) rfl (fun b6 => ?_) (fun b6 => absurd b6 (by omega))
    refine mv_iconst (v := 0) d_TrustDeskModel_isWell_11 (by decide) ?_
    refine mv_iret d_TrustDeskModel_isWell_12 rfl (by decide) ?_
    refine mv_if_eq_t (tgt := 47) d_TrustDeskModel_number_24 (by decide) (by decide) ?_
    refine mv_aload_n d_TrustDeskModel_number_47 rfl rfl ?_
    obtain ⟨_, b7, -⟩ := I0.1 _ _ h_o0
    refine mv_callV (kc1 := 0) (ks1 := 0) (kc' := 0) (ks' := 0) (As := []) (st9 := [.ref o0]) d_TrustDeskModel_number_48 lV_TrustDeskModel_230 b7 rfl (mj_enter (by decide) (Nat.le_of_ble_eq_true rfl) ?_) rfl (Nat.le_of_ble_eq_true rfl) (Nat.le_of_ble_eq_true rfl) (Nat.le_of_ble_eq_true rfl) (hst := rfl) (fun _ _ _ h => h)
    refine mv_aload_n d_TrustDeskModel_isWell_0 rfl rfl ?_
    refine tr_getK (k := 19) q2 d_TrustDeskModel_isWell_1 f_TrustDeskModel_224_13 ?_
    have := mz_hi v3
    refine mv_if_neZ (tgt := 11) (a := v3.toInt) d_TrustDeskModel_isWell_4 (by decide) rfl (fun b8 => ?_) (fun b8 => absurd b8 (by omega))
    refine mv_iconst (v := 0) d_TrustDeskModel_isWell_11 (by decide) ?_
    refine mv_iret d_TrustDeskModel_isWell_12 rfl (by decide) ?_
    refine mv_if_ne_f (tgt := 56) d_TrustDeskModel_number_51 (by decide) (by decide) ?_
    refine mv_iconst (v := 0) d_TrustDeskModel_number_54 (by decide) ?_
    exact mv_iret d_TrustDeskModel_number_55 rfl (by first | rfl | decide) ⟨_, I0, _, rfl, yR, yE0.vac (by have := yR.1 15 _ _ rfl; have := yR.1 16 _ _ rfl; have := yR.1 19 _ _ rfl; omega) 0 1, (Or.inl (by decide)), (by first | (rw [show p_num pb pn x1.toInt x2.toInt ps = ps from (by unfold p_num; skip; ((repeat' (first | (with_reducible rfl) | split)) <;> (exfalso; omega)))]; exact yO) | (exfalso; have := yR.1 15 _ _ rfl; have := yR.1 16 _ _ rfl; have := yR.1 19 _ _ rfl; omega)), (fun w9 => by have := yR.1 15 _ _ rfl; have := yR.1 16 _ _ rfl; have := yR.1 19 _ _ rfl; omega)⟩
  · refine mv_iconst (v := 1) d_TrustDeskModel_isWell_7 (by decide) ?_
    refine mv_goto (tgt := 12) d_TrustDeskModel_isWell_8 (by decide) ?_
    refine mv_iret d_TrustDeskModel_isWell_12 rfl (by decide) ?_
    refine mv_if_eq_f (tgt := 20) d_TrustDeskModel_number_4 (by decide) (by decide) ?_
    refine mv_aload_n d_TrustDeskModel_number_7 rfl rfl ?_
    obtain ⟨v10, q9⟩ := tm_atI I0 h_o0 (k := 17) rfl
    refine tr_getK q9 d_TrustDeskModel_number_8 f_TrustDeskModel_198_13 ?_
    have := tm_rv q9
    refine mv_iconst (v := 2) d_TrustDeskModel_number_11 (by decide) ?_
    have := mz_hi v10
    refine mv_icmp_eqZ (tgt := 20) (a := v10.toInt) (b := 2) d_TrustDeskModel_number_12 (by decide) rfl (by decide) (fun b11 => ?_) (fun b11 => ?_)
    · refine mv_aload_n d_TrustDeskModel_number_20 rfl rfl ?_
      obtain ⟨_, b12, -⟩ := I0.1 _ _ h_o0
      refine mv_callV (kc1 := 0) (ks1 := 0) (kc' := 0) (ks' := 0) (As := []) (st9 := [.ref o0]) d_TrustDeskModel_number_21 lV_TrustDeskModel_230 b12 rfl (mj_enter (by decide) (Nat.le_of_ble_eq_true rfl) ?_) rfl (Nat.le_of_ble_eq_true rfl) (Nat.le_of_ble_eq_true rfl) (Nat.le_of_ble_eq_true rfl) (hst := rfl) (fun _ _ _ h => h)
      refine mv_aload_n d_TrustDeskModel_isWell_0 rfl rfl ?_
      refine tr_getK (k := 19) q2 d_TrustDeskModel_isWell_1 f_TrustDeskModel_224_13 ?_
      have := mz_hi v3
      refine mv_if_neZ (tgt := 11) (a := v3.toInt) d_TrustDeskModel_isWell_4 (by decide) rfl (fun b13 => absurd b13 (by omega)) (fun b13 => ?_)
      refine mv_iconst (v := 1) d_TrustDeskModel_isWell_7 (by decide) ?_
      refine mv_goto (tgt := 12) d_TrustDeskModel_isWell_8 (by decide) ?_
      refine mv_iret d_TrustDeskModel_isWell_12 rfl (by decide) ?_
      refine mv_if_eq_f (tgt := 47) d_TrustDeskModel_number_24 (by decide) (by decide) ?_
      refine mv_aload_n d_TrustDeskModel_number_27 rfl rfl ?_
      obtain ⟨v15, q14⟩ := tm_atI I0 h_o0 (k := 18) rfl
      refine tr_getK q14 d_TrustDeskModel_number_28 f_TrustDeskModel_201_13 ?_
      have := yR.f (k := 18) q14 rfl
      have := tm_rv q14
      refine mv_i2l (v := v15.toInt64) d_TrustDeskModel_number_31 rfl ?_
      refine mv_iload_n d_TrustDeskModel_number_32 rfl rfl ?_
      refine mv_i2l (v := x1.toInt64) d_TrustDeskModel_number_33 rfl ?_
      refine mv_iload_n d_TrustDeskModel_number_34 rfl rfl ?_
      refine mv_i2l (v := x2.toInt64) d_TrustDeskModel_number_35 rfl ?_
      refine mv_callS (kc1 := 0) (ks1 := 0) (kc' := 0) (ks' := 0) (As := [.long v15.toInt64, .long x1.toInt64, .long x2.toInt64]) (st9 := [.long x2.toInt64, .long x1.toInt64, .long v15.toInt64]) d_TrustDeskModel_number_36 lS_TrustDeskModel_169 (mj_enter (by decide) (Nat.le_of_ble_eq_true rfl) ?_) rfl (Nat.le_of_ble_eq_true rfl) (Nat.le_of_ble_eq_true rfl) (Nat.le_of_ble_eq_true rfl) (hst := rfl) (fun _ _ _ h => h)
      refine mv_lload_n d_TrustDeskModel_within_0 rfl rfl ?_
      refine mv_lload_n d_TrustDeskModel_within_1 rfl rfl ?_
      refine mv_lltZ (tgt := 17) (a := v15.toInt) (b := x1.toInt) d_TrustDeskModel_within_2 d_TrustDeskModel_within_3 (by decide) (mz_wide _) (mz_wide _) (fun b16 => ?_) (fun b16 => ?_)
      · refine mv_iconst (v := 0) d_TrustDeskModel_within_17 (by decide) ?_
        refine mv_iret d_TrustDeskModel_within_18 rfl (by decide) ?_
        refine mv_if_ne_f (tgt := 47) d_TrustDeskModel_number_39 (by decide) (by decide) ?_
        refine mv_aload_n d_TrustDeskModel_number_42 rfl rfl ?_
        refine mv_iconst (v := 2) d_TrustDeskModel_number_43 (by decide) ?_
        obtain ⟨_, b23, -⟩ := I0.1 _ _ h_o0
        have : (2 : Int32).toInt = 2 := by decide
        refine mv_callV (kc' := 0) (ks' := 0) (As := [.int 2]) (st9 := [.int 2, .ref o0]) d_TrustDeskModel_number_44 lV_TrustDeskModel_240 b23 rfl (tc_TrustDeskModel_fails_x (d := (d + 1)) (x9 := x9) (o0 := o0) (x1 := 2) h_o0 yR (by decide) yO I0.start) rfl (Nat.le_of_ble_eq_true rfl) (Nat.le_of_ble_eq_true rfl) (Nat.le_of_ble_eq_true rfl) (hst := rfl) (fun b17r M18 n19 b17 => ?_)
        obtain ⟨T20, J21, rfl, R24, f25, f26⟩ := b17
        have I22 := I0.call J21 (tm_sub (by decide)) (Or.inl rfl)
        have t27 := J21.up h_o0
        have z28 := (rv_c I0 J21 (I0.up h_o0) (k := 15) rfl)
        have z29 := (rv_c I0 J21 (I0.up h_o0) (k := 16) rfl)
        have z30 := (rv_c I0 J21 (I0.up h_o0) (k := 17) rfl)
        have z31 := (rv_c I0 J21 (I0.up h_o0) (k := 22) rfl)
        have z32 := (rv_c I0 J21 (I0.up h_o0) (k := 24) rfl)
        have z33 := (ra_call I0 J21 (I0.up h_o0) (k := 5) rfl rfl rfl 44)
        have z34 := (ra_call I0 J21 (I0.up h_o0) (k := 6) rfl rfl rfl 44)
        have E35 : rE M0 M18 o0 0 0 := yE0.fails (rE_hv I0 J21 (I0.up h_o0) 15 18 (by decide)) (rE_ha I0 J21 (I0.up h_o0) (by decide)) f25 0 0
        rw [show (2 : Int32).toInt = 2 from by decide] at f26
        obtain ⟨s36, e37⟩ : ∃ s9 : p_S, p_fl pb pn 2 ps = s9 := ⟨_, rfl⟩
        rw [e37] at f26
        have := f26.w
        have q38 := J21.keep h_o0 (by decide) q9
        have q39 := J21.keep h_o0 (by decide) q14
        refine mv_aload_n d_TrustDeskModel_number_47 rfl rfl ?_
        obtain ⟨_, b40, -⟩ := I22.1 _ _ t27
        refine mv_callV (kc1 := 0) (ks1 := 0) (kc' := 0) (ks' := 0) (As := []) (st9 := [.ref o0]) d_TrustDeskModel_number_48 lV_TrustDeskModel_230 b40 rfl (mj_enter (by decide) (Nat.le_of_ble_eq_true rfl) ?_) rfl (Nat.le_of_ble_eq_true rfl) (Nat.le_of_ble_eq_true rfl) (Nat.le_of_ble_eq_true rfl) (hst := rfl) (fun _ _ _ h => h)
        refine mv_aload_n d_TrustDeskModel_isWell_0 rfl rfl ?_
        obtain ⟨v42, q41⟩ := tm_atI I22 t27 (k := 19) rfl
        refine tr_getK q41 d_TrustDeskModel_isWell_1 f_TrustDeskModel_224_13 ?_
        have := R24.f (k := 19) q41 rfl
        have := tm_rv q41
        refine mv_if_neZ (tgt := 11) (a := v42.toInt) d_TrustDeskModel_isWell_4 (by decide) rfl (fun b43 => ?_) (fun b43 => ?_)
        · refine mv_iconst (v := 0) d_TrustDeskModel_isWell_11 (by decide) ?_
          refine mv_iret d_TrustDeskModel_isWell_12 rfl (by decide) ?_
          refine mv_if_ne_f (tgt := 56) d_TrustDeskModel_number_51 (by decide) (by decide) ?_
          refine mv_iconst (v := 0) d_TrustDeskModel_number_54 (by decide) ?_
          exact mv_iret d_TrustDeskModel_number_55 rfl (by first | rfl | decide) ⟨_, I22, _, rfl, R24, E35.vac (by have := R24.1 15 _ _ rfl; have := R24.1 16 _ _ rfl; have := R24.1 19 _ _ rfl; omega) 0 1, (Or.inl (by decide)), (by first | (have := yO.s2 (by omega) (by omega); rw [show p_num pb pn x1.toInt x2.toInt ps = s36 from (by unfold p_num; (try simp only [e37]); ((repeat' (first | (with_reducible rfl) | split)) <;> (exfalso; omega)))]; exact f26) | (exfalso; have := R24.1 15 _ _ rfl; have := R24.1 16 _ _ rfl; have := R24.1 19 _ _ rfl; omega)), (fun w9 => by have := yO.s2 (by omega) (by omega); have := R24.1 15 _ _ rfl; have := R24.1 16 _ _ rfl; have := R24.1 19 _ _ rfl; omega)⟩
        · exfalso
          have := R24.1 15 _ _ rfl; have := R24.1 16 _ _ rfl; have := R24.1 19 _ _ rfl; omega
      · refine mv_lload_n d_TrustDeskModel_within_6 rfl rfl ?_
        refine mv_lload d_TrustDeskModel_within_7 rfl ?_
        refine mv_lgtZ (tgt := 17) (a := v15.toInt) (b := x2.toInt) d_TrustDeskModel_within_9 d_TrustDeskModel_within_10 (by decide) (mz_wide _) (mz_wide _) (fun b44 => ?_) (fun b44 => ?_)
        · refine mv_iconst (v := 0) d_TrustDeskModel_within_17 (by decide) ?_
          refine mv_iret d_TrustDeskModel_within_18 rfl (by decide) ?_
          refine mv_if_ne_f (tgt := 47) d_TrustDeskModel_number_39 (by decide) (by decide) ?_
          refine mv_aload_n d_TrustDeskModel_number_42 rfl rfl ?_
          refine mv_iconst (v := 2) d_TrustDeskModel_number_43 (by decide) ?_
          obtain ⟨_, b51, -⟩ := I0.1 _ _ h_o0
          have : (2 : Int32).toInt = 2 := by decide
          refine mv_callV (kc' := 0) (ks' := 0) (As := [.int 2]) (st9 := [.int 2, .ref o0]) d_TrustDeskModel_number_44 lV_TrustDeskModel_240 b51 rfl (tc_TrustDeskModel_fails_x (d := (d + 1)) (x9 := x9) (o0 := o0) (x1 := 2) h_o0 yR (by decide) yO I0.start) rfl (Nat.le_of_ble_eq_true rfl) (Nat.le_of_ble_eq_true rfl) (Nat.le_of_ble_eq_true rfl) (hst := rfl) (fun b45r M46 n47 b45 => ?_)
          obtain ⟨T48, J49, rfl, R52, f53, f54⟩ := b45
          have I50 := I0.call J49 (tm_sub (by decide)) (Or.inl rfl)
          have t55 := J49.up h_o0
          have z56 := (rv_c I0 J49 (I0.up h_o0) (k := 15) rfl)
          have z57 := (rv_c I0 J49 (I0.up h_o0) (k := 16) rfl)
          have z58 := (rv_c I0 J49 (I0.up h_o0) (k := 17) rfl)
          have z59 := (rv_c I0 J49 (I0.up h_o0) (k := 22) rfl)
          have z60 := (rv_c I0 J49 (I0.up h_o0) (k := 24) rfl)
          have z61 := (ra_call I0 J49 (I0.up h_o0) (k := 5) rfl rfl rfl 44)
          have z62 := (ra_call I0 J49 (I0.up h_o0) (k := 6) rfl rfl rfl 44)
          have E63 : rE M0 M46 o0 0 0 := yE0.fails (rE_hv I0 J49 (I0.up h_o0) 15 18 (by decide)) (rE_ha I0 J49 (I0.up h_o0) (by decide)) f53 0 0
          rw [show (2 : Int32).toInt = 2 from by decide] at f54
          obtain ⟨s64, e65⟩ : ∃ s9 : p_S, p_fl pb pn 2 ps = s9 := ⟨_, rfl⟩
          rw [e65] at f54
          have := f54.w
          have q66 := J49.keep h_o0 (by decide) q9
          have q67 := J49.keep h_o0 (by decide) q14
          refine mv_aload_n d_TrustDeskModel_number_47 rfl rfl ?_
          obtain ⟨_, b68, -⟩ := I50.1 _ _ t55
          refine mv_callV (kc1 := 0) (ks1 := 0) (kc' := 0) (ks' := 0) (As := []) (st9 := [.ref o0]) d_TrustDeskModel_number_48 lV_TrustDeskModel_230 b68 rfl (mj_enter (by decide) (Nat.le_of_ble_eq_true rfl) ?_) rfl (Nat.le_of_ble_eq_true rfl) (Nat.le_of_ble_eq_true rfl) (Nat.le_of_ble_eq_true rfl) (hst := rfl) (fun _ _ _ h => h)
          refine mv_aload_n d_TrustDeskModel_isWell_0 rfl rfl ?_
          obtain ⟨v70, q69⟩ := tm_atI I50 t55 (k := 19) rfl
          refine tr_getK q69 d_TrustDeskModel_isWell_1 f_TrustDeskModel_224_13 ?_
          have := R52.f (k := 19) q69 rfl
          have := tm_rv q69
          refine mv_if_neZ (tgt := 11) (a := v70.toInt) d_TrustDeskModel_isWell_4 (by decide) rfl (fun b71 => ?_) (fun b71 => ?_)
          · refine mv_iconst (v := 0) d_TrustDeskModel_isWell_11 (by decide) ?_
            refine mv_iret d_TrustDeskModel_isWell_12 rfl (by decide) ?_
            refine mv_if_ne_f (tgt := 56) d_TrustDeskModel_number_51 (by decide) (by decide) ?_
            refine mv_iconst (v := 0) d_TrustDeskModel_number_54 (by decide) ?_
            exact mv_iret d_TrustDeskModel_number_55 rfl (by first | rfl | decide) ⟨_, I50, _, rfl, R52, E63.vac (by have := R52.1 15 _ _ rfl; have := R52.1 16 _ _ rfl; have := R52.1 19 _ _ rfl; omega) 0 1, (Or.inl (by decide)), (by first | (have := yO.s2 (by omega) (by omega); rw [show p_num pb pn x1.toInt x2.toInt ps = s64 from (by unfold p_num; (try simp only [e65]); ((repeat' (first | (with_reducible rfl) | split)) <;> (exfalso; omega)))]; exact f54) | (exfalso; have := R52.1 15 _ _ rfl; have := R52.1 16 _ _ rfl; have := R52.1 19 _ _ rfl; omega)), (fun w9 => by have := yO.s2 (by omega) (by omega); have := R52.1 15 _ _ rfl; have := R52.1 16 _ _ rfl; have := R52.1 19 _ _ rfl; omega)⟩
          · exfalso
            have := R52.1 15 _ _ rfl; have := R52.1 16 _ _ rfl; have := R52.1 19 _ _ rfl; omega
        · refine mv_iconst (v := 1) d_TrustDeskModel_within_13 (by decide) ?_
          refine mv_goto (tgt := 18) d_TrustDeskModel_within_14 (by decide) ?_
          refine mv_iret d_TrustDeskModel_within_18 rfl (by decide) ?_
          refine mv_if_ne_t (tgt := 47) d_TrustDeskModel_number_39 (by decide) (by decide) ?_
          refine mv_aload_n d_TrustDeskModel_number_47 rfl rfl ?_
          obtain ⟨_, b72, -⟩ := I0.1 _ _ h_o0
          refine mv_callV (kc1 := 0) (ks1 := 0) (kc' := 0) (ks' := 0) (As := []) (st9 := [.ref o0]) d_TrustDeskModel_number_48 lV_TrustDeskModel_230 b72 rfl (mj_enter (by decide) (Nat.le_of_ble_eq_true rfl) ?_) rfl (Nat.le_of_ble_eq_true rfl) (Nat.le_of_ble_eq_true rfl) (Nat.le_of_ble_eq_true rfl) (hst := rfl) (fun _ _ _ h => h)
          refine mv_aload_n d_TrustDeskModel_isWell_0 rfl rfl ?_
          refine tr_getK (k := 19) q2 d_TrustDeskModel_isWell_1 f_TrustDeskModel_224_13 ?_
          have := mz_hi v3
          refine mv_if_neZ (tgt := 11) (a := v3.toInt) d_TrustDeskModel_isWell_4 (by decide) rfl (fun b73 => absurd b73 (by omega)) (fun b73 => ?_)
          refine mv_iconst (v := 1) d_TrustDeskModel_isWell_7 (by decide) ?_
          refine mv_goto (tgt := 12) d_TrustDeskModel_isWell_8 (by decide) ?_
          refine mv_iret d_TrustDeskModel_isWell_12 rfl (by decide) ?_
          refine mv_if_ne_t (tgt := 56) d_TrustDeskModel_number_51 (by decide) (by decide) ?_
          refine mv_aload_n d_TrustDeskModel_number_56 rfl rfl ?_
          refine tr_getK (k := 18) q14 d_TrustDeskModel_number_57 f_TrustDeskModel_201_13 ?_
          refine mv_istore_n (lv' := [(3, .int v15), (0, .ref o0), (1, .int x1), (2, .int x2)]) d_TrustDeskModel_number_60 rfl (by decide) rfl ?_
          refine mv_aload_n d_TrustDeskModel_number_61 rfl rfl ?_
          obtain ⟨_, b80, -⟩ := I0.1 _ _ h_o0
          refine mv_callV (kc' := 0) (ks' := 0) (As := []) (st9 := [.ref o0]) d_TrustDeskModel_number_62 lV_TrustDeskModel_237 b80 rfl (tc_TrustDeskModel_next_x (d := d) (x9 := x9) (o0 := o0) h_o0 yR yO.p I0.start) rfl (Nat.le_of_ble_eq_true rfl) (Nat.le_of_ble_eq_true rfl) (Nat.le_of_ble_eq_true rfl) (hst := rfl) (fun b74r M75 n76 b74 => ?_)
          obtain ⟨T77, J78, rfl, R81, f82, f83, f84⟩ := b74
          have I79 := I0.call J78 (tm_sub (by decide)) (Or.inl rfl)
          have t85 := J78.up h_o0
          have z86 := (rv_c I0 J78 (I0.up h_o0) (k := 19) rfl)
          have z87 := (rv_c I0 J78 (I0.up h_o0) (k := 22) rfl)
          have z88 := (rv_c I0 J78 (I0.up h_o0) (k := 24) rfl)
          have z89 := (ra_call I0 J78 (I0.up h_o0) (k := 5) rfl rfl rfl 44)
          have z90 := (ra_call I0 J78 (I0.up h_o0) (k := 6) rfl rfl rfl 44)
          have h92 : rv M0 o0 16 + 1 ≤ rv M0 o0 15 := (by have := yE0.1.2.1 (by omega); omega)
          have E91 : rE M0 M75 o0 0 1 := yE0.next f82 f83 (rv_c I0 J78 (I0.up h_o0) (k := 19) rfl) (rE_ha I0 J78 (I0.up h_o0) (by decide)) (e := 1) h92 (by decide)
          obtain ⟨s93, e94⟩ : ∃ s9 : p_S, p_nx ps = s9 := ⟨_, rfl⟩
          rw [e94] at f84
          have := f84.w
          have q95 := J78.keep h_o0 (by decide) q2
          refine mv_iload_n d_TrustDeskModel_number_65 rfl rfl ?_
          exact mv_iret d_TrustDeskModel_number_66 rfl (by first | rfl | decide) ⟨_, I79, _, rfl, R81, E91, (Or.inr (by have := R81.1 15 _ _ rfl; have := R81.1 16 _ _ rfl; have := R81.1 19 _ _ rfl; omega)), (by first | (have := yO.s2 (by omega) (by omega); rw [show p_num pb pn x1.toInt x2.toInt ps = s93 from (by unfold p_num; (try simp only [e94]); ((repeat' (first | (with_reducible rfl) | split)) <;> (exfalso; omega)))]; exact f84) | (exfalso; have := R81.1 15 _ _ rfl; have := R81.1 16 _ _ rfl; have := R81.1 19 _ _ rfl; omega)), (fun w9 => by have := yO.s2 (by omega) (by omega); have := R81.1 15 _ _ rfl; have := R81.1 16 _ _ rfl; have := R81.1 19 _ _ rfl; omega)⟩
    · refine mv_aload_n d_TrustDeskModel_number_15 rfl rfl ?_
      refine mv_iconst (v := 1) d_TrustDeskModel_number_16 (by decide) ?_
      obtain ⟨_, b102, -⟩ := I0.1 _ _ h_o0
      have : (1 : Int32).toInt = 1 := by decide
      refine mv_callV (kc' := 0) (ks' := 0) (As := [.int 1]) (st9 := [.int 1, .ref o0]) d_TrustDeskModel_number_17 lV_TrustDeskModel_240 b102 rfl (tc_TrustDeskModel_fails_x (d := (d + 1)) (x9 := x9) (o0 := o0) (x1 := 1) h_o0 yR (by decide) yO I0.start) rfl (Nat.le_of_ble_eq_true rfl) (Nat.le_of_ble_eq_true rfl) (Nat.le_of_ble_eq_true rfl) (hst := rfl) (fun b96r M97 n98 b96 => ?_)
      obtain ⟨T99, J100, rfl, R103, f104, f105⟩ := b96
      have I101 := I0.call J100 (tm_sub (by decide)) (Or.inl rfl)
      have t106 := J100.up h_o0
      have z107 := (rv_c I0 J100 (I0.up h_o0) (k := 15) rfl)
      have z108 := (rv_c I0 J100 (I0.up h_o0) (k := 16) rfl)
      have z109 := (rv_c I0 J100 (I0.up h_o0) (k := 17) rfl)
      have z110 := (rv_c I0 J100 (I0.up h_o0) (k := 22) rfl)
      have z111 := (rv_c I0 J100 (I0.up h_o0) (k := 24) rfl)
      have z112 := (ra_call I0 J100 (I0.up h_o0) (k := 5) rfl rfl rfl 44)
      have z113 := (ra_call I0 J100 (I0.up h_o0) (k := 6) rfl rfl rfl 44)
      have E114 : rE M0 M97 o0 0 0 := yE0.fails (rE_hv I0 J100 (I0.up h_o0) 15 18 (by decide)) (rE_ha I0 J100 (I0.up h_o0) (by decide)) f104 0 0
      rw [show (1 : Int32).toInt = 1 from by decide] at f105
      obtain ⟨s115, e116⟩ : ∃ s9 : p_S, p_fl pb pn 1 ps = s9 := ⟨_, rfl⟩
      rw [e116] at f105
      have := f105.w
      have q117 := J100.keep h_o0 (by decide) q9
      refine mv_aload_n d_TrustDeskModel_number_20 rfl rfl ?_
      obtain ⟨_, b118, -⟩ := I101.1 _ _ t106
      refine mv_callV (kc1 := 0) (ks1 := 0) (kc' := 0) (ks' := 0) (As := []) (st9 := [.ref o0]) d_TrustDeskModel_number_21 lV_TrustDeskModel_230 b118 rfl (mj_enter (by decide) (Nat.le_of_ble_eq_true rfl) ?_) rfl (Nat.le_of_ble_eq_true rfl) (Nat.le_of_ble_eq_true rfl) (Nat.le_of_ble_eq_true rfl) (hst := rfl) (fun _ _ _ h => h)
      refine mv_aload_n d_TrustDeskModel_isWell_0 rfl rfl ?_
      obtain ⟨v120, q119⟩ := tm_atI I101 t106 (k := 19) rfl
      refine tr_getK q119 d_TrustDeskModel_isWell_1 f_TrustDeskModel_224_13 ?_
      have := R103.f (k := 19) q119 rfl
      have := tm_rv q119
      refine mv_if_neZ (tgt := 11) (a := v120.toInt) d_TrustDeskModel_isWell_4 (by decide) rfl (fun b121 => ?_) (fun b121 => ?_)
      · refine mv_iconst (v := 0) d_TrustDeskModel_isWell_11 (by decide) ?_
        refine mv_iret d_TrustDeskModel_isWell_12 rfl (by decide) ?_
        refine mv_if_eq_t (tgt := 47) d_TrustDeskModel_number_24 (by decide) (by decide) ?_
        refine mv_aload_n d_TrustDeskModel_number_47 rfl rfl ?_
        obtain ⟨_, b122, -⟩ := I101.1 _ _ t106
        refine mv_callV (kc1 := 0) (ks1 := 0) (kc' := 0) (ks' := 0) (As := []) (st9 := [.ref o0]) d_TrustDeskModel_number_48 lV_TrustDeskModel_230 b122 rfl (mj_enter (by decide) (Nat.le_of_ble_eq_true rfl) ?_) rfl (Nat.le_of_ble_eq_true rfl) (Nat.le_of_ble_eq_true rfl) (Nat.le_of_ble_eq_true rfl) (hst := rfl) (fun _ _ _ h => h)
        refine mv_aload_n d_TrustDeskModel_isWell_0 rfl rfl ?_
        refine tr_getK (k := 19) q119 d_TrustDeskModel_isWell_1 f_TrustDeskModel_224_13 ?_
        refine mv_if_neZ (tgt := 11) (a := v120.toInt) d_TrustDeskModel_isWell_4 (by decide) rfl (fun b123 => ?_) (fun b123 => ?_)
        · refine mv_iconst (v := 0) d_TrustDeskModel_isWell_11 (by decide) ?_
          refine mv_iret d_TrustDeskModel_isWell_12 rfl (by decide) ?_
          refine mv_if_ne_f (tgt := 56) d_TrustDeskModel_number_51 (by decide) (by decide) ?_
          refine mv_iconst (v := 0) d_TrustDeskModel_number_54 (by decide) ?_
          exact mv_iret d_TrustDeskModel_number_55 rfl (by first | rfl | decide) ⟨_, I101, _, rfl, R103, E114.vac (by have := R103.1 15 _ _ rfl; have := R103.1 16 _ _ rfl; have := R103.1 19 _ _ rfl; omega) 0 1, (Or.inl (by decide)), (by first | (have := yO.n2 (by omega) (by omega); rw [show p_num pb pn x1.toInt x2.toInt ps = s115 from (by unfold p_num; (try simp only [e116]); ((repeat' (first | (with_reducible rfl) | split)) <;> (exfalso; omega)))]; exact f105) | (exfalso; have := R103.1 15 _ _ rfl; have := R103.1 16 _ _ rfl; have := R103.1 19 _ _ rfl; omega)), (fun w9 => by have := yO.n2 (by omega) (by omega); have := R103.1 15 _ _ rfl; have := R103.1 16 _ _ rfl; have := R103.1 19 _ _ rfl; omega)⟩
        · exfalso
          have := R103.1 15 _ _ rfl; have := R103.1 16 _ _ rfl; have := R103.1 19 _ _ rfl; omega
      · exfalso
        have := R103.1 15 _ _ rfl; have := R103.1 16 _ _ rfl; have := R103.1 19 _ _ rfl; omega
abbrev kY_TrustDeskModel_begin : mj_Y := (⟨"TrustDeskModel", "begin", "(I)I"⟩, prog_14_method_34_code, 3, (Option.some Jvm.ClassFile.FieldType.int))
theorem d_TrustDeskModel_begin_0 : decode kY_TrustDeskModel_begin.2.1 0 = .ok (.sipush 880, 3) := by decide +kernel
theorem d_TrustDeskModel_begin_3 : decode kY_TrustDeskModel_begin.2.1 3 = .ok (.aload_n 0, 1) := by decide +kernel
theorem d_TrustDeskModel_begin_4 : decode kY_TrustDeskModel_begin.2.1 4 = .ok (.getfield 23, 3) := by decide +kernel
theorem f_TrustDeskModel_23_13 : mj_fl "TrustDeskModel" 23 13 6 := ⟨kR_TrustDeskModel, kF_TrustDeskModel, 72, "TrustDeskModel", rfl, kg_13, by decide, (mj_in1 (List.mem_of_getElem? (i := 1392) (by decide +kernel)) rfl), Or.inl rfl⟩
theorem d_TrustDeskModel_begin_7 : decode kY_TrustDeskModel_begin.2.1 7 = .ok (.bipush 44, 2) := by decide +kernel
theorem d_TrustDeskModel_begin_9 : decode kY_TrustDeskModel_begin.2.1 9 = .ok (.iaload, 1) := by decide +kernel
theorem d_TrustDeskModel_begin_10 : decode kY_TrustDeskModel_begin.2.1 10 = .ok (.iadd, 1) := by decide +kernel
theorem d_TrustDeskModel_begin_11 : decode kY_TrustDeskModel_begin.2.1 11 = .ok (.istore_n 2, 1) := by decide +kernel
theorem d_TrustDeskModel_begin_12 : decode kY_TrustDeskModel_begin.2.1 12 = .ok (.aload_n 0, 1) := by decide +kernel
theorem d_TrustDeskModel_begin_13 : decode kY_TrustDeskModel_begin.2.1 13 = .ok (.getfield 23, 3) := by decide +kernel
theorem d_TrustDeskModel_begin_16 : decode kY_TrustDeskModel_begin.2.1 16 = .ok (.bipush 44, 2) := by decide +kernel
theorem d_TrustDeskModel_begin_18 : decode kY_TrustDeskModel_begin.2.1 18 = .ok (.dup2, 1) := by decide +kernel
theorem d_TrustDeskModel_begin_19 : decode kY_TrustDeskModel_begin.2.1 19 = .ok (.iaload, 1) := by decide +kernel
theorem d_TrustDeskModel_begin_20 : decode kY_TrustDeskModel_begin.2.1 20 = .ok (.iconst 1, 1) := by decide +kernel
theorem d_TrustDeskModel_begin_21 : decode kY_TrustDeskModel_begin.2.1 21 = .ok (.iadd, 1) := by decide +kernel
theorem d_TrustDeskModel_begin_22 : decode kY_TrustDeskModel_begin.2.1 22 = .ok (.iastore, 1) := by decide +kernel
theorem d_TrustDeskModel_begin_23 : decode kY_TrustDeskModel_begin.2.1 23 = .ok (.aload_n 0, 1) := by decide +kernel
theorem d_TrustDeskModel_begin_24 : decode kY_TrustDeskModel_begin.2.1 24 = .ok (.getfield 26, 3) := by decide +kernel
theorem f_TrustDeskModel_26_13 : mj_fl "TrustDeskModel" 26 13 7 := ⟨kR_TrustDeskModel, kF_TrustDeskModel, 72, "TrustDeskModel", rfl, kg_13, by decide, (mj_in1 (List.mem_of_getElem? (i := 1393) (by decide +kernel)) rfl), Or.inl rfl⟩
theorem d_TrustDeskModel_begin_27 : decode kY_TrustDeskModel_begin.2.1 27 = .ok (.iload_n 2, 1) := by decide +kernel
theorem d_TrustDeskModel_begin_28 : decode kY_TrustDeskModel_begin.2.1 28 = .ok (.iload_n 1, 1) := by decide +kernel
theorem d_TrustDeskModel_begin_29 : decode kY_TrustDeskModel_begin.2.1 29 = .ok (.iastore, 1) := by decide +kernel
theorem d_TrustDeskModel_begin_30 : decode kY_TrustDeskModel_begin.2.1 30 = .ok (.aload_n 0, 1) := by decide +kernel
theorem d_TrustDeskModel_begin_31 : decode kY_TrustDeskModel_begin.2.1 31 = .ok (.getfield 35, 3) := by decide +kernel
theorem f_TrustDeskModel_35_13 : mj_fl "TrustDeskModel" 35 13 10 := ⟨kR_TrustDeskModel, kF_TrustDeskModel, 72, "TrustDeskModel", rfl, kg_13, by decide, (mj_in1 (List.mem_of_getElem? (i := 1396) (by decide +kernel)) rfl), Or.inl rfl⟩
theorem d_TrustDeskModel_begin_34 : decode kY_TrustDeskModel_begin.2.1 34 = .ok (.iload_n 2, 1) := by decide +kernel
theorem d_TrustDeskModel_begin_35 : decode kY_TrustDeskModel_begin.2.1 35 = .ok (.aload_n 0, 1) := by decide +kernel
theorem d_TrustDeskModel_begin_36 : decode kY_TrustDeskModel_begin.2.1 36 = .ok (.getfield 20, 3) := by decide +kernel
theorem d_TrustDeskModel_begin_39 : decode kY_TrustDeskModel_begin.2.1 39 = .ok (.bipush 44, 2) := by decide +kernel
theorem d_TrustDeskModel_begin_41 : decode kY_TrustDeskModel_begin.2.1 41 = .ok (.iaload, 1) := by decide +kernel
theorem d_TrustDeskModel_begin_42 : decode kY_TrustDeskModel_begin.2.1 42 = .ok (.iastore, 1) := by decide +kernel
theorem d_TrustDeskModel_begin_43 : decode kY_TrustDeskModel_begin.2.1 43 = .ok (.aload_n 0, 1) := by decide +kernel
theorem d_TrustDeskModel_begin_44 : decode kY_TrustDeskModel_begin.2.1 44 = .ok (.invokevirtual 237, 3) := by decide +kernel
theorem d_TrustDeskModel_begin_47 : decode kY_TrustDeskModel_begin.2.1 47 = .ok (.iload_n 2, 1) := by decide +kernel
theorem d_TrustDeskModel_begin_48 : decode kY_TrustDeskModel_begin.2.1 48 = .ok (.ireturn, 1) := by decide +kernel
def w_TrustDeskModel_begin_x : List Nat := [1315, 1316, 1317, 1318, 20006, 20007, 20010]
set_option maxHeartbeats 100000000 in theorem tc_TrustDeskModel_begin_x {g : mj_G} {l : Launch} {d : Nat} {T0 : tm_H} {M0 : mj_M} {n0 x9 : Nat} {o0 : Nat} {x1 : Int32} (h_o0 : T0 o0 = some (0, 13, 0)) (yR : rI M0 o0) (yT : rT M0 o0) (yS : rv M0 o0 19 = 0 → ra M0 o0 5 44 ≤ rv M0 o0 16) (yw : rv M0 o0 19 = 0) (yo : rv M0 o0 17 ≠ 0) (ym : ra M0 o0 6 44 ≤ 19) {pb : Nat → Int} {pn : Nat} {pa : Int} {ps : p_S} (yO : pO M0 o0 pb pn pa ps) (I0 : tm_I tm_FT (tm_in w_TrustDeskModel_begin_x) x9 T0 M0 n0 T0 M0 n0) : mj_Met g l kY_TrustDeskModel_begin (d + 2) [.ref o0, .int x1] M0 n0 0 0 (tm_Q tm_FT (tm_in w_TrustDeskModel_begin_x) x9 T0 M0 n0 (fun r _ M => ∃ v : Int32, r = some (.int v) ∧ rI M o0 ∧ (rE M0 M o0 0 1) ∧ (v.toInt = 880 + ra M0 o0 6 44) ∧ (ra M o0 6 44 = ra M0 o0 6 44 + 1) ∧ (ra M o0 7 (880 + ra M0 o0 6 44).toNat = x1.toInt) ∧ (ra M o0 10 (880 + ra M0 o0 6 44).toNat = ra M0 o0 5 44) ∧ (rK M0 M o0 (880 + ra M0 o0 6 44).toNat) ∧ (pO M o0 pb pn pa (p_nx ps)))) := by
  refine mj_enter (by decide) (Nat.le_of_ble_eq_true rfl) ?_
  have yE0 := rE.rf yT
  have K1 : rK M0 M0 o0 ((880 + ra M0 o0 6 44).toNat) := rK.rf
  have := yO.w
  refine mv_sipush (v := 880) d_TrustDeskModel_begin_0 (by decide) ?_
  refine mv_aload_n d_TrustDeskModel_begin_3 rfl rfl ?_
  obtain ⟨a3, q2, t_a3⟩ := tm_atR I0 h_o0 (k := 6) rfl
  refine tr_getK q2 d_TrustDeskModel_begin_4 f_TrustDeskModel_23_13 ?_
  refine mv_bipush (v := 44) d_TrustDeskModel_begin_7 (by decide) ?_
  refine tr_ialdR (o := o0) (k := 6) I0 q2 t_a3 (by decide) d_TrustDeskModel_begin_9 (by unfold vp_in; decide) (fun v4 e5 => ?_)
  have := yR.a (k := 6) rfl (44 : Int32).toNatClampNeg
  have : v4.toInt = ra M0 o0 6 44 := e5
  refine mv_iadd d_TrustDeskModel_begin_10 ?_
  refine mv_istore_n (lv' := [(2, .int (880 + v4)), (0, .ref o0), (1, .int x1)]) d_TrustDeskModel_begin_11 rfl (by decide) rfl ?_
  refine mv_aload_n d_TrustDeskModel_begin_12 rfl rfl ?_
  refine tr_getK (k := 6) q2 d_TrustDeskModel_begin_13 f_TrustDeskModel_23_13 ?_
  refine mv_bipush (v := 44) d_TrustDeskModel_begin_16 (by decide) ?_
  refine mv_dup2_11 d_TrustDeskModel_begin_18 rfl rfl ?_
  refine tr_ialdR (o := o0) (k := 6) I0 q2 t_a3 (by decide) d_TrustDeskModel_begin_19 (by unfold vp_in; decide) (fun v6 e7 => ?_)
  have := yR.a (k := 6) rfl (44 : Int32).toNatClampNeg
  have : v6.toInt = ra M0 o0 6 44 := e7
  refine mv_iconst (v := 1) d_TrustDeskModel_begin_20 (by decide) ?_
  refine mv_iadd d_TrustDeskModel_begin_21 ?_
  have b8 : (v6 + 1 : Int32).toInt = (v6.toInt + 1) := mz_add2 rfl (by decide) (by have := yR.1 15 _ _ rfl; have := yR.1 16 _ _ rfl; have := yR.1 19 _ _ rfl; omega) (by have := yR.1 15 _ _ rfl; have := yR.1 16 _ _ rfl; have := yR.1 19 _ _ rfl; omega)
  refine tr_iastR (k := 6) I0 yR (I0.up h_o0) q2 t_a3 (by decide) (by decide) (fun lo hi h => by cases h; have := yR.1 15 _ _ rfl; have := yR.1 16 _ _ rfl; have := yR.1 19 _ _ rfl; exact ⟨by show (0 : Int) ≤ (v6 + 1).toInt; omega, by show (v6 + 1).toInt ≤ (20 : Int); omega⟩) (Or.inl (by decide)) d_TrustDeskModel_begin_22 (by unfold vp_in; decide) (fun M9 I10 K11 R12 E13 A14 V15 => ?_)
  have z16 := (V15 15)
  have z17 := (V15 16)
  have z18 := (V15 17)
  have z19 := (V15 19)
  have z20 := (V15 22)
  have z21 := (V15 24)
  have z22 := (A14 5 (by decide) rfl 44)
  have z23 : ra M9 o0 6 44 = (v6 + 1).toInt := (E13 44).trans (if_pos (by decide))
  have E24 : rE M0 M9 o0 0 0 := yE0.same (fun k _ _ => V15 k) (fun k h1 h2 => A14 k (by omega) (by rcases (show k = 4 ∨ k = 5 by omega) with rfl | rfl <;> rfl))
  have K25 : rK M0 M9 o0 ((880 + ra M0 o0 6 44).toNat) := K1.same (sA_a A14 (by decide +kernel))
  have Z926 : pO M9 o0 pb pn pa ps := yO.same (fun k _ _ => V15 k) (V15 23) (A14 13 (by decide) rfl)
  refine mv_aload_n d_TrustDeskModel_begin_23 rfl rfl ?_
  obtain ⟨a28, q27, t_a28⟩ := tm_atR I10 h_o0 (k := 7) rfl
  refine tr_getK q27 d_TrustDeskModel_begin_24 f_TrustDeskModel_26_13 ?_
  refine mv_iload_n d_TrustDeskModel_begin_27 rfl rfl ?_
  refine mv_iload_n d_TrustDeskModel_begin_28 rfl rfl ?_
  have b29 : (880 + v4 : Int32).toInt = (880 + v4.toInt) := mz_add2 (by decide) rfl (by have := R12.1 15 _ _ rfl; have := R12.1 16 _ _ rfl; have := R12.1 19 _ _ rfl; omega) (by have := R12.1 15 _ _ rfl; have := R12.1 16 _ _ rfl; have := R12.1 19 _ _ rfl; omega)
  refine tr_iastR (k := 7) I10 R12 (I10.up h_o0) q27 t_a28 (by decide) (by decide) (fun lo hi h => by cases h) (Or.inl (by decide)) d_TrustDeskModel_begin_29 (vp_in_iff.mpr (by have := R12.1 15 _ _ rfl; have := R12.1 16 _ _ rfl; have := R12.1 19 _ _ rfl; omega)) (fun M30 I31 K32 R33 E34 A35 V36 => ?_)
  have z37 := (V36 15).trans z16
  have z38 := (V36 16).trans z17
  have z39 := (V36 17).trans z18
  have z40 := (V36 19).trans z19
  have z41 := (V36 22).trans z20
  have z42 := (V36 24).trans z21
  have z43 := (A35 5 (by decide) rfl 44).trans z22
  have z44 := (A35 6 (by decide) rfl 44).trans z23
  have E45 : rE M0 M30 o0 0 0 := E24.same (fun k _ _ => V36 k) (fun k h1 h2 => A35 k (by omega) (by rcases (show k = 4 ∨ k = 5 by omega) with rfl | rfl <;> rfl))
  have h46 : (880 + ra M0 o0 6 44).toNat = (880 + v4).toNatClampNeg := by have := mz_nat9 (i := (880 + v4)) (by have := R12.1 15 _ _ rfl; have := R12.1 16 _ _ rfl; have := R12.1 19 _ _ rfl; omega); have := R12.1 15 _ _ rfl; have := R12.1 16 _ _ rfl; have := R12.1 19 _ _ rfl; omega
  have z47 : ra M30 o0 7 ((880 + ra M0 o0 6 44).toNat) = x1.toInt := (E34 _).trans (if_pos h46)
  have K48 : rK M0 M30 o0 ((880 + ra M0 o0 6 44).toNat) := K25.st A35 E34 (by have := mz_nat9 (i := (880 + v4)) (by have := R12.1 15 _ _ rfl; have := R12.1 16 _ _ rfl; have := R12.1 19 _ _ rfl; omega); have := R12.1 15 _ _ rfl; have := R12.1 16 _ _ rfl; have := R12.1 19 _ _ rfl; omega)
  have Z949 : pO M30 o0 pb pn pa ps := Z926.same (fun k _ _ => V36 k) (V36 23) (A35 13 (by decide) rfl)
  clear z16 z17 z18 z20 z21 z22 z23
  refine mv_aload_n d_TrustDeskModel_begin_30 rfl rfl ?_
  obtain ⟨a51, q50, t_a51⟩ := tm_atR I31 h_o0 (k := 10) rfl
  refine tr_getK q50 d_TrustDeskModel_begin_31 f_TrustDeskModel_35_13 ?_
  refine mv_iload_n d_TrustDeskModel_begin_34 rfl rfl ?_
  refine mv_aload_n d_TrustDeskModel_begin_35 rfl rfl ?_
  obtain ⟨a53, q52, t_a53⟩ := tm_atR I31 h_o0 (k := 5) rfl
  refine tr_getK q52 d_TrustDeskModel_begin_36 f_TrustDeskModel_20_13 ?_
  refine mv_bipush (v := 44) d_TrustDeskModel_begin_39 (by decide) ?_
  refine tr_ialdR (o := o0) (k := 5) I31 q52 t_a53 (by decide) d_TrustDeskModel_begin_41 (by unfold vp_in; decide) (fun v54 e55 => ?_)
  have := R33.a (k := 5) rfl (44 : Int32).toNatClampNeg
  have : v54.toInt = ra M30 o0 5 44 := e55
  have : v54.toInt = _ := Eq.trans e55 z43
  have b56 : (880 + v4 : Int32).toInt = (880 + v4.toInt) := mz_add2 (by decide) rfl (by have := R33.1 15 _ _ rfl; have := R33.1 16 _ _ rfl; have := R33.1 19 _ _ rfl; omega) (by have := R33.1 15 _ _ rfl; have := R33.1 16 _ _ rfl; have := R33.1 19 _ _ rfl; omega)
  refine tr_iastR (k := 10) I31 R33 (I31.up h_o0) q50 t_a51 (by decide) (by decide) (fun lo hi h => by cases h; have := R33.1 15 _ _ rfl; have := R33.1 16 _ _ rfl; have := R33.1 19 _ _ rfl; exact ⟨by show (0 : Int) ≤ v54.toInt; omega, by show v54.toInt ≤ (400 : Int); omega⟩) (Or.inl (by decide)) d_TrustDeskModel_begin_42 (vp_in_iff.mpr (by have := R33.1 15 _ _ rfl; have := R33.1 16 _ _ rfl; have := R33.1 19 _ _ rfl; omega)) (fun M57 I58 K59 R60 E61 A62 V63 => ?_)
  have z64 := (V63 15).trans z37
  have z65 := (V63 16).trans z38
  have z66 := (V63 17).trans z39
  have z67 := (V63 19).trans z40
  have z68 := (V63 22).trans z41
  have z69 := (V63 24).trans z42
  have z70 := (A62 5 (by decide) rfl 44).trans z43
  have z71 := (A62 6 (by decide) rfl 44).trans z44
  have z72 := (A62 7 (by decide) rfl ((880 + ra M0 o0 6 44).toNat)).trans z47
  have E73 : rE M0 M57 o0 0 0 := E45.same (fun k _ _ => V63 k) (fun k h1 h2 => A62 k (by omega) (by rcases (show k = 4 ∨ k = 5 by omega) with rfl | rfl <;> rfl))
  have h74 : (880 + ra M0 o0 6 44).toNat = (880 + v4).toNatClampNeg := by have := mz_nat9 (i := (880 + v4)) (by have := R33.1 15 _ _ rfl; have := R33.1 16 _ _ rfl; have := R33.1 19 _ _ rfl; omega); have := R33.1 15 _ _ rfl; have := R33.1 16 _ _ rfl; have := R33.1 19 _ _ rfl; omega
  have z75 : ra M57 o0 10 ((880 + ra M0 o0 6 44).toNat) = v54.toInt := (E61 _).trans (if_pos h74)
  have K76 : rK M0 M57 o0 ((880 + ra M0 o0 6 44).toNat) := K48.st A62 E61 (by have := mz_nat9 (i := (880 + v4)) (by have := R33.1 15 _ _ rfl; have := R33.1 16 _ _ rfl; have := R33.1 19 _ _ rfl; omega); have := R33.1 15 _ _ rfl; have := R33.1 16 _ _ rfl; have := R33.1 19 _ _ rfl; omega)
  have Z977 : pO M57 o0 pb pn pa ps := Z949.same (fun k _ _ => V63 k) (V63 23) (A62 13 (by decide) rfl)
  clear z37 z38 z39 z41 z42 z43 z44 z47
  refine mv_aload_n d_TrustDeskModel_begin_43 rfl rfl ?_
  obtain ⟨_, b84, -⟩ := I58.1 _ _ h_o0
  refine mv_callV (kc' := 0) (ks' := 0) (As := []) (st9 := [.ref o0]) d_TrustDeskModel_begin_44 lV_TrustDeskModel_237 b84 rfl (tc_TrustDeskModel_next_x (d := d) (x9 := x9) (o0 := o0) h_o0 R60 Z977.p I58.start) rfl (Nat.le_of_ble_eq_true rfl) (Nat.le_of_ble_eq_true rfl) (Nat.le_of_ble_eq_true rfl) (hst := rfl) (fun b78r M79 n80 b78 => ?_)
  obtain ⟨T81, J82, rfl, R85, f86, f87, f88⟩ := b78
  have I83 := I58.call J82 (tm_sub (by decide)) (Or.inl rfl)
  have t89 := J82.up h_o0
  have z90 := (rv_c I58 J82 (I58.up h_o0) (k := 19) rfl).trans z67
  have z91 := (rv_c I58 J82 (I58.up h_o0) (k := 22) rfl).trans z68
  have z92 := (rv_c I58 J82 (I58.up h_o0) (k := 24) rfl).trans z69
  have z93 := (ra_call I58 J82 (I58.up h_o0) (k := 5) rfl rfl rfl 44).trans z70
  have z94 := (ra_call I58 J82 (I58.up h_o0) (k := 6) rfl rfl rfl 44).trans z71
  have z95 := (ra_call I58 J82 (I58.up h_o0) (k := 7) rfl rfl rfl ((880 + ra M0 o0 6 44).toNat)).trans z72
  have z96 := (ra_call I58 J82 (I58.up h_o0) (k := 10) rfl rfl rfl ((880 + ra M0 o0 6 44).toNat)).trans z75
  have h98 : rv M57 o0 16 + 1 ≤ rv M57 o0 15 := (by have := E73.1.2.1 (by omega); omega)
  have E97 : rE M0 M79 o0 0 1 := E73.next f86 f87 (rv_c I58 J82 (I58.up h_o0) (k := 19) rfl) (rE_ha I58 J82 (I58.up h_o0) (by decide)) (e := 1) h98 (by decide)
  have K99 : rK M0 M79 o0 ((880 + ra M0 o0 6 44).toNat) := K76.same (sA_c I58 J82 (I58.up h_o0) (by decide +kernel))
  obtain ⟨s100, e101⟩ : ∃ s9 : p_S, p_nx ps = s9 := ⟨_, rfl⟩
  rw [e101] at f88
  have := f88.w
  clear z68 z69 z70 z71 z72 z75
  have q102 := J82.keep h_o0 (by decide) (K59 _ 13 6 _ (K32 _ 13 6 _ (K11 _ 13 6 _ q2)))
  have t103 := J82.up t_a3
  have q104 := J82.keep h_o0 (by decide) (K59 _ 13 7 _ (K32 _ 13 7 _ q27))
  have t105 := J82.up t_a28
  have q106 := J82.keep h_o0 (by decide) (K59 _ 13 10 _ q50)
  have t107 := J82.up t_a51
  have q108 := J82.keep h_o0 (by decide) (K59 _ 13 5 _ q52)
  have t109 := J82.up t_a53
  refine mv_iload_n d_TrustDeskModel_begin_47 rfl rfl ?_
  exact mv_iret d_TrustDeskModel_begin_48 rfl (by first | rfl | decide) ⟨_, I83, _, rfl, R85, E97, (by have := R85.1 15 _ _ rfl; have := R85.1 16 _ _ rfl; have := R85.1 19 _ _ rfl; omega), (by have := R85.1 15 _ _ rfl; have := R85.1 16 _ _ rfl; have := R85.1 19 _ _ rfl; omega), (by have := R85.1 15 _ _ rfl; have := R85.1 16 _ _ rfl; have := R85.1 19 _ _ rfl; omega), (by have := R85.1 15 _ _ rfl; have := R85.1 16 _ _ rfl; have := R85.1 19 _ _ rfl; omega), K99, (by first | (rw [show p_nx ps = s100 from (by (try simp only [e101]))]; exact f88) | (exfalso; have := R85.1 15 _ _ rfl; have := R85.1 16 _ _ rfl; have := R85.1 19 _ _ rfl; omega))⟩
abbrev kY_TrustDeskModel_readMarks : mj_Y := (⟨"TrustDeskModel", "readMarks", "(I)V"⟩, prog_14_method_35_code, 3, (Option.none : Option Jvm.ClassFile.FieldType))
theorem d_TrustDeskModel_readMarks_0 : decode kY_TrustDeskModel_readMarks.2.1 0 = .ok (.iconst 1, 1) := by decide +kernel
theorem d_TrustDeskModel_readMarks_1 : decode kY_TrustDeskModel_readMarks.2.1 1 = .ok (.aload_n 0, 1) := by decide +kernel
theorem d_TrustDeskModel_readMarks_2 : decode kY_TrustDeskModel_readMarks.2.1 2 = .ok (.iconst 0, 1) := by decide +kernel
theorem d_TrustDeskModel_readMarks_3 : decode kY_TrustDeskModel_readMarks.2.1 3 = .ok (.bipush 7, 2) := by decide +kernel
theorem d_TrustDeskModel_readMarks_5 : decode kY_TrustDeskModel_readMarks.2.1 5 = .ok (.invokevirtual 317, 3) := by decide +kernel
theorem lV_TrustDeskModel_317 : mj_lV "TrustDeskModel" 317 kY_TrustDeskModel_number 2 := ⟨⟨(mj_in1 (List.mem_of_getElem? (i := 1768) (by decide +kernel)) rfl), (mj_in1 (List.mem_of_getElem? (i := 10) (by decide +kernel)) rfl), (mj_in1 (List.mem_of_getElem? (i := 1771) (by decide +kernel)) rfl), by decide, rfl, by decide⟩, (mj_in1 (List.mem_of_getElem? (i := 1770) (by decide +kernel)) rfl), (mj_in (List.mem_append_left _ (List.mem_of_getElem? (i := 102) (by decide +kernel))) rfl)⟩
theorem d_TrustDeskModel_readMarks_8 : decode kY_TrustDeskModel_readMarks.2.1 8 = .ok (.ishl, 1) := by decide +kernel
theorem d_TrustDeskModel_readMarks_9 : decode kY_TrustDeskModel_readMarks.2.1 9 = .ok (.istore_n 2, 1) := by decide +kernel
theorem d_TrustDeskModel_readMarks_10 : decode kY_TrustDeskModel_readMarks.2.1 10 = .ok (.aload_n 0, 1) := by decide +kernel
theorem d_TrustDeskModel_readMarks_11 : decode kY_TrustDeskModel_readMarks.2.1 11 = .ok (.invokevirtual 230, 3) := by decide +kernel
theorem d_TrustDeskModel_readMarks_14 : decode kY_TrustDeskModel_readMarks.2.1 14 = .ok (.ifCond .eq 26, 3) := by decide +kernel
theorem d_TrustDeskModel_readMarks_40 : decode kY_TrustDeskModel_readMarks.2.1 40 = .ok (.aload_n 0, 1) := by decide +kernel
theorem d_TrustDeskModel_readMarks_41 : decode kY_TrustDeskModel_readMarks.2.1 41 = .ok (.getfield 29, 3) := by decide +kernel
theorem f_TrustDeskModel_29_13 : mj_fl "TrustDeskModel" 29 13 8 := ⟨kR_TrustDeskModel, kF_TrustDeskModel, 72, "TrustDeskModel", rfl, kg_13, by decide, (mj_in1 (List.mem_of_getElem? (i := 1394) (by decide +kernel)) rfl), Or.inl rfl⟩
theorem d_TrustDeskModel_readMarks_44 : decode kY_TrustDeskModel_readMarks.2.1 44 = .ok (.iload_n 1, 1) := by decide +kernel
theorem d_TrustDeskModel_readMarks_45 : decode kY_TrustDeskModel_readMarks.2.1 45 = .ok (.iload_n 2, 1) := by decide +kernel
theorem d_TrustDeskModel_readMarks_46 : decode kY_TrustDeskModel_readMarks.2.1 46 = .ok (.iastore, 1) := by decide +kernel
theorem d_TrustDeskModel_readMarks_47 : decode kY_TrustDeskModel_readMarks.2.1 47 = .ok (.return_, 1) := by decide +kernel
theorem d_TrustDeskModel_readMarks_17 : decode kY_TrustDeskModel_readMarks.2.1 17 = .ok (.aload_n 0, 1) := by decide +kernel
theorem d_TrustDeskModel_readMarks_18 : decode kY_TrustDeskModel_readMarks.2.1 18 = .ok (.getfield 198, 3) := by decide +kernel
theorem d_TrustDeskModel_readMarks_21 : decode kY_TrustDeskModel_readMarks.2.1 21 = .ok (.iconst 2, 1) := by decide +kernel
theorem d_TrustDeskModel_readMarks_22 : decode kY_TrustDeskModel_readMarks.2.1 22 = .ok (.if_icmp .ne 18, 3) := by decide +kernel
theorem d_TrustDeskModel_readMarks_25 : decode kY_TrustDeskModel_readMarks.2.1 25 = .ok (.iload_n 2, 1) := by decide +kernel
theorem d_TrustDeskModel_readMarks_26 : decode kY_TrustDeskModel_readMarks.2.1 26 = .ok (.iconst 1, 1) := by decide +kernel
theorem d_TrustDeskModel_readMarks_27 : decode kY_TrustDeskModel_readMarks.2.1 27 = .ok (.aload_n 0, 1) := by decide +kernel
theorem d_TrustDeskModel_readMarks_28 : decode kY_TrustDeskModel_readMarks.2.1 28 = .ok (.iconst 0, 1) := by decide +kernel
theorem d_TrustDeskModel_readMarks_29 : decode kY_TrustDeskModel_readMarks.2.1 29 = .ok (.bipush 7, 2) := by decide +kernel
theorem d_TrustDeskModel_readMarks_31 : decode kY_TrustDeskModel_readMarks.2.1 31 = .ok (.invokevirtual 317, 3) := by decide +kernel
theorem d_TrustDeskModel_readMarks_34 : decode kY_TrustDeskModel_readMarks.2.1 34 = .ok (.ishl, 1) := by decide +kernel
theorem d_TrustDeskModel_readMarks_35 : decode kY_TrustDeskModel_readMarks.2.1 35 = .ok (.ior, 1) := by decide +kernel
theorem d_TrustDeskModel_readMarks_36 : decode kY_TrustDeskModel_readMarks.2.1 36 = .ok (.istore_n 2, 1) := by decide +kernel
theorem d_TrustDeskModel_readMarks_37 : decode kY_TrustDeskModel_readMarks.2.1 37 = .ok (.goto (-27), 3) := by decide +kernel
def w_TrustDeskModel_readMarks_x : List Nat := [1315, 1316, 1317, 1318, 1319, 1320, 20008]
set_option maxHeartbeats 100000000 in theorem tc_TrustDeskModel_readMarks_x {g : mj_G} {l : Launch} {d : Nat} {T0 : tm_H} {M0 : mj_M} {n0 x9 : Nat} {o0 : Nat} {x1 : Int32} (h_o0 : T0 o0 = some (0, 13, 0)) (yR : rI M0 o0) (yT : rT M0 o0) (yS : rv M0 o0 19 = 0 → ra M0 o0 5 44 ≤ rv M0 o0 16) (yr : 880 ≤ x1.toInt ∧ x1.toInt ≤ 899) {pb : Nat → Int} {pn : Nat} {pa : Int} {ps : p_S} (yO : pO M0 o0 pb pn pa ps) (I0 : tm_I tm_FT (tm_in w_TrustDeskModel_readMarks_x) x9 T0 M0 n0 T0 M0 n0) : mj_Met g l kY_TrustDeskModel_readMarks (d + 3) [.ref o0, .int x1] M0 n0 0 0 (tm_Q tm_FT (tm_in w_TrustDeskModel_readMarks_x) x9 T0 M0 n0 (fun r _ M => r = none ∧ rI M o0 ∧ (rE M0 M o0 0 0) ∧ (rK1 8 M0 M o0 x1.toNatClampNeg) ∧ (0 ≤ ra M o0 8 x1.toNatClampNeg) ∧ (pO M o0 pb pn pa (p_mar pb pn ps)))) := by
  refine mj_enter (by decide) (Nat.le_of_ble_eq_true rfl) ?_
  have yE0 := rE.rf yT
  have K1 : rK1 8 M0 M0 o0 x1.toNatClampNeg := rK1.rf
  have := yO.w
  refine mv_iconst (v := 1) d_TrustDeskModel_readMarks_0 (by decide) ?_
  refine mv_aload_n d_TrustDeskModel_readMarks_1 rfl rfl ?_
  refine mv_iconst (v := 0) d_TrustDeskModel_readMarks_2 (by decide) ?_
  refine mv_bipush (v := 7) d_TrustDeskModel_readMarks_3 (by decide) ?_
  obtain ⟨_, b8, -⟩ := I0.1 _ _ h_o0
  have : (0 : Int32).toInt = 0 := by decide
  have : (7 : Int32).toInt = 7 := by decide
  refine mv_callV (kc' := 0) (ks' := 0) (As := [.int 0, .int 7]) (st9 := [.int 7, .int 0, .ref o0, .int 1]) d_TrustDeskModel_readMarks_5 lV_TrustDeskModel_317 b8 rfl (tc_TrustDeskModel_number_x (d := d) (x9 := x9) (o0 := o0) (x1 := 0) (x2 := 7) h_o0 yR yE0.1 (yE0.s yS (by decide)) yO I0.start) rfl (Nat.le_of_ble_eq_true rfl) (Nat.le_of_ble_eq_true rfl) (Nat.le_of_ble_eq_true rfl) (hst := rfl) (fun b2r M3 n4 b2 => ?_)
  obtain ⟨T5, J6, v9, rfl, R10, f11, f12, f13, f14⟩ := b2
  have I7 := I0.call J6 (tm_sub (by decide)) (Or.inl rfl)
  have t15 := J6.up h_o0
  have := f11.2.1
  have f16 := Im.i f11.w.2
  have f17 := Im.i f11.w2
  replace f14 := Im.i f14
  have z18 := (ra_call I0 J6 (I0.up h_o0) (k := 5) rfl rfl rfl 44)
  have z19 := (ra_call I0 J6 (I0.up h_o0) (k := 6) rfl rfl rfl 44)
  have E20 : rE M0 M3 o0 0 1 := yE0.trans f11 (by decide) (yR.2 5 _ _ rfl 44).1 (by decide) (by decide)
  have K21 : rK1 8 M0 M3 o0 x1.toNatClampNeg := K1.same (((sA_c I0 J6 (I0.up h_o0) (by decide +kernel)) : sA [8] _ _ _) 8 rfl)
  rw [show (0 : Int32).toInt = 0 from by decide] at f13
  rw [show (7 : Int32).toInt = 7 from by decide] at f13
  obtain ⟨s22, e23⟩ : ∃ s9 : p_S, p_num pb pn 0 7 ps = s9 := ⟨_, rfl⟩
  rw [e23] at f13
  have := f13.w
  have := mz_shl9 (v := v9) (by have := R10.1 15 _ _ rfl; have := R10.1 16 _ _ rfl; have := R10.1 19 _ _ rfl; omega) (by have := R10.1 15 _ _ rfl; have := R10.1 16 _ _ rfl; have := R10.1 19 _ _ rfl; omega)
  refine mv_ishl d_TrustDeskModel_readMarks_8 ?_
  refine mv_istore_n (lv' := [(2, .int (1 <<< (v9 &&& 31))), (0, .ref o0), (1, .int x1)]) d_TrustDeskModel_readMarks_9 rfl (by decide) rfl ?_
  have L10_24 : ∀ (k : Nat) (i2_24 : Int32) (T_24 : tm_H) (M_24 : mj_M) (n_24 : Nat), tm_I tm_FT (tm_in w_TrustDeskModel_readMarks_x) x9 T0 M0 n0 T_24 M_24 n_24 → T_24 o0 = some (0, 13, 0) → 0 ≤ i2_24.toInt → i2_24.toInt ≤ 255 → (rI M_24 o0) → (rE M0 M_24 o0 0 0) → (rK1 8 M0 M_24 o0 x1.toNatClampNeg) → (∃ s1 : p_S, pO M_24 o0 pb pn pa s1 ∧ p_lp pn (p_ma1 pb pn) s1 = p_mar pb pn ps) → 5 * (401 - rv M_24 o0 16) - rv M_24 o0 19 < (k : Int) → mj_V g l kY_TrustDeskModel_readMarks (d + 3) 10 [(2, .int i2_24), (0, .ref o0), (1, .int x1)] [] M_24 n_24 0 0 (tm_Q tm_FT (tm_in w_TrustDeskModel_readMarks_x) x9 T0 M0 n0 (fun r _ M => r = none ∧ rI M o0 ∧ (rE M0 M o0 0 0) ∧ (rK1 8 M0 M o0 x1.toNatClampNeg) ∧ (0 ≤ ra M o0 8 x1.toNatClampNeg) ∧ (pO M o0 pb pn pa (p_mar pb pn ps)))) := by
    intro k24
    induction k24 with
    | zero =>
      intro i2_24 T_24 M_24 n_24 I_24 h_q0_24 iv0_24 iv1_24 kKR_24 kKE_24 kKH_24 kKT9_24 hk24
      have := kKR_24.1 15 _ _ rfl
      have := kKR_24.1 16 _ _ rfl
      have := kKR_24.1 19 _ _ rfl
      exfalso; omega
    | succ k24 ih24 =>
      intro i2_24 T_24 M_24 n_24 I_24 h_q0_24 iv0_24 iv1_24 kKR_24 kKE_24 kKH_24 kKT9_24 hk24
      have := kKE_24.f yS
      obtain ⟨s25, Z926, e27⟩ := kKT9_24
      have := Z926.w
      refine mv_aload_n d_TrustDeskModel_readMarks_10 rfl rfl ?_
      obtain ⟨_, b28, -⟩ := I_24.1 _ _ h_q0_24
      refine mv_callV (kc1 := 0) (ks1 := 0) (kc' := 0) (ks' := 0) (As := []) (st9 := [.ref o0]) d_TrustDeskModel_readMarks_11 lV_TrustDeskModel_230 b28 rfl (mj_enter (by decide) (Nat.le_of_ble_eq_true rfl) ?_) rfl (Nat.le_of_ble_eq_true rfl) (Nat.le_of_ble_eq_true rfl) (Nat.le_of_ble_eq_true rfl) (hst := rfl) (fun _ _ _ h => h)
      refine mv_aload_n d_TrustDeskModel_isWell_0 rfl rfl ?_
      obtain ⟨v30, q29⟩ := tm_atI I_24 h_q0_24 (k := 19) rfl
      refine tr_getK q29 d_TrustDeskModel_isWell_1 f_TrustDeskModel_224_13 ?_
      have := kKR_24.f (k := 19) q29 rfl
      have := tm_rv q29
      have := mz_hi v30
      refine mv_if_neZ (tgt := 11) (a := v30.toInt) d_TrustDeskModel_isWell_4 (by decide) rfl (fun b31 => ?_) (fun b31 => ?_)
      · refine mv_iconst (v := 0) d_TrustDeskModel_isWell_11 (by decide) ?_
        refine mv_iret d_TrustDeskModel_isWell_12 rfl (by decide) ?_
        refine mv_if_eq_t (tgt := 40) d_TrustDeskModel_readMarks_14 (by decide) (by decide) ?_
        refine mv_aload_n d_TrustDeskModel_readMarks_40 rfl rfl ?_
        obtain ⟨a33, q32, t_a33⟩ := tm_atR I_24 h_q0_24 (k := 8) rfl
        refine tr_getK q32 d_TrustDeskModel_readMarks_41 f_TrustDeskModel_29_13 ?_
        refine mv_iload_n d_TrustDeskModel_readMarks_44 rfl rfl ?_
        refine mv_iload_n d_TrustDeskModel_readMarks_45 rfl rfl ?_
        refine tr_iastR (k := 8) I_24 kKR_24 (I_24.up h_o0) q32 t_a33 (by decide) (by decide) (fun lo hi h => by cases h; have := kKR_24.1 15 _ _ rfl; have := kKR_24.1 16 _ _ rfl; have := kKR_24.1 19 _ _ rfl; exact ⟨by show ((-1) : Int) ≤ i2_24.toInt; omega, by show i2_24.toInt ≤ (720 : Int); omega⟩) (Or.inl (by decide)) d_TrustDeskModel_readMarks_46 (vp_in_iff.mpr (by have := kKR_24.1 15 _ _ rfl; have := kKR_24.1 16 _ _ rfl; have := kKR_24.1 19 _ _ rfl; omega)) (fun M34 I35 K36 R37 E38 A39 V40 => ?_)
        have z41 := (V40 16)
        have z42 := (V40 17)
        have z43 := (V40 19)
        have z44 := (A39 5 (by decide) rfl 44)
        have z45 := (A39 6 (by decide) rfl 44)
        have E46 : rE M0 M34 o0 0 0 := kKE_24.same (fun k _ _ => V40 k) (fun k h1 h2 => A39 k (by omega) (by rcases (show k = 4 ∨ k = 5 by omega) with rfl | rfl <;> rfl))
        have h47 : x1.toNatClampNeg = x1.toNatClampNeg := rfl
        have z48 : ra M34 o0 8 x1.toNatClampNeg = i2_24.toInt := (E38 _).trans (if_pos h47)
        have K49 : rK1 8 M0 M34 o0 x1.toNatClampNeg := kKH_24.st E38 rfl
        have Z950 : pO M34 o0 pb pn pa s25 := Z926.same (fun k _ _ => V40 k) (V40 23) (A39 13 (by decide) rfl)
        exact mv_vret d_TrustDeskModel_readMarks_47 rfl ⟨_, I35, rfl, R37, E46, K49, (by have := R37.1 15 _ _ rfl; have := R37.1 16 _ _ rfl; have := R37.1 19 _ _ rfl; omega), (by first | (have hX := e27.symm.trans (p_lp_stop (show (p_ma1 pb pn) s25 = s25 from if_neg (fun h9 => by omega))); rw [show p_mar pb pn ps = s25 from (by exact hX)]; exact Z950) | (exfalso; have := R37.1 15 _ _ rfl; have := R37.1 16 _ _ rfl; have := R37.1 19 _ _ rfl; omega))⟩
      · refine mv_iconst (v := 1) d_TrustDeskModel_isWell_7 (by decide) ?_
        refine mv_goto (tgt := 12) d_TrustDeskModel_isWell_8 (by decide) ?_
        refine mv_iret d_TrustDeskModel_isWell_12 rfl (by decide) ?_
        refine mv_if_eq_f (tgt := 40) d_TrustDeskModel_readMarks_14 (by decide) (by decide) ?_
        refine mv_aload_n d_TrustDeskModel_readMarks_17 rfl rfl ?_
        obtain ⟨v52, q51⟩ := tm_atI I_24 h_q0_24 (k := 17) rfl
        refine tr_getK q51 d_TrustDeskModel_readMarks_18 f_TrustDeskModel_198_13 ?_
        have := tm_rv q51
        refine mv_iconst (v := 2) d_TrustDeskModel_readMarks_21 (by decide) ?_
        have := mz_hi v52
        refine mv_icmp_neZ (tgt := 40) (a := v52.toInt) (b := 2) d_TrustDeskModel_readMarks_22 (by decide) rfl (by decide) (fun b53 => ?_) (fun b53 => ?_)
        · refine mv_aload_n d_TrustDeskModel_readMarks_40 rfl rfl ?_
          obtain ⟨a55, q54, t_a55⟩ := tm_atR I_24 h_q0_24 (k := 8) rfl
          refine tr_getK q54 d_TrustDeskModel_readMarks_41 f_TrustDeskModel_29_13 ?_
          refine mv_iload_n d_TrustDeskModel_readMarks_44 rfl rfl ?_
          refine mv_iload_n d_TrustDeskModel_readMarks_45 rfl rfl ?_
          refine tr_iastR (k := 8) I_24 kKR_24 (I_24.up h_o0) q54 t_a55 (by decide) (by decide) (fun lo hi h => by cases h; have := kKR_24.1 15 _ _ rfl; have := kKR_24.1 16 _ _ rfl; have := kKR_24.1 19 _ _ rfl; exact ⟨by show ((-1) : Int) ≤ i2_24.toInt; omega, by show i2_24.toInt ≤ (720 : Int); omega⟩) (Or.inl (by decide)) d_TrustDeskModel_readMarks_46 (vp_in_iff.mpr (by have := kKR_24.1 15 _ _ rfl; have := kKR_24.1 16 _ _ rfl; have := kKR_24.1 19 _ _ rfl; omega)) (fun M56 I57 K58 R59 E60 A61 V62 => ?_)
          have z63 := (V62 16)
          have z64 := (V62 17)
          have z65 := (V62 19)
          have z66 := (A61 5 (by decide) rfl 44)
          have z67 := (A61 6 (by decide) rfl 44)
          have E68 : rE M0 M56 o0 0 0 := kKE_24.same (fun k _ _ => V62 k) (fun k h1 h2 => A61 k (by omega) (by rcases (show k = 4 ∨ k = 5 by omega) with rfl | rfl <;> rfl))
          have h69 : x1.toNatClampNeg = x1.toNatClampNeg := rfl
          have z70 : ra M56 o0 8 x1.toNatClampNeg = i2_24.toInt := (E60 _).trans (if_pos h69)
          have K71 : rK1 8 M0 M56 o0 x1.toNatClampNeg := kKH_24.st E60 rfl
          have Z972 : pO M56 o0 pb pn pa s25 := Z926.same (fun k _ _ => V62 k) (V62 23) (A61 13 (by decide) rfl)
          exact mv_vret d_TrustDeskModel_readMarks_47 rfl ⟨_, I57, rfl, R59, E68, K71, (by have := R59.1 15 _ _ rfl; have := R59.1 16 _ _ rfl; have := R59.1 19 _ _ rfl; omega), (by first | (have := Z926.n2 (by omega) (by omega); have hX := e27.symm.trans (p_lp_stop (show (p_ma1 pb pn) s25 = s25 from if_neg (fun h9 => by omega))); rw [show p_mar pb pn ps = s25 from (by exact hX)]; exact Z972) | (exfalso; have := R59.1 15 _ _ rfl; have := R59.1 16 _ _ rfl; have := R59.1 19 _ _ rfl; omega))⟩
        · refine mv_iload_n d_TrustDeskModel_readMarks_25 rfl rfl ?_
          refine mv_iconst (v := 1) d_TrustDeskModel_readMarks_26 (by decide) ?_
          refine mv_aload_n d_TrustDeskModel_readMarks_27 rfl rfl ?_
          refine mv_iconst (v := 0) d_TrustDeskModel_readMarks_28 (by decide) ?_
          refine mv_bipush (v := 7) d_TrustDeskModel_readMarks_29 (by decide) ?_
          obtain ⟨_, b79, -⟩ := I_24.1 _ _ h_q0_24
          have : (0 : Int32).toInt = 0 := by decide
          have : (7 : Int32).toInt = 7 := by decide
          refine mv_callV (kc' := 0) (ks' := 0) (As := [.int 0, .int 7]) (st9 := [.int 7, .int 0, .ref o0, .int 1, .int i2_24]) d_TrustDeskModel_readMarks_31 lV_TrustDeskModel_317 b79 rfl (tc_TrustDeskModel_number_x (d := d) (x9 := x9) (o0 := o0) (x1 := 0) (x2 := 7) h_q0_24 kKR_24 kKE_24.1 (kKE_24.s yS (by decide)) Z926 I_24.start) rfl (Nat.le_of_ble_eq_true rfl) (Nat.le_of_ble_eq_true rfl) (Nat.le_of_ble_eq_true rfl) (hst := rfl) (fun b73r M74 n75 b73 => ?_)
          obtain ⟨T76, J77, v80, rfl, R81, f82, f83, f84, f85⟩ := b73
          have I78 := I_24.call J77 (tm_sub (by decide)) (Or.inl rfl)
          have t86 := J77.up h_q0_24
          have := f82.2.1
          have f87 := Im.i f82.w.2
          have f88 := Im.i f82.w2
          replace f85 := Im.i f85
          have z89 := (ra_call I_24 J77 (I_24.up h_o0) (k := 5) rfl rfl rfl 44)
          have z90 := (ra_call I_24 J77 (I_24.up h_o0) (k := 6) rfl rfl rfl 44)
          have E91 : rE M0 M74 o0 0 1 := kKE_24.trans f82 (by decide) (yR.2 5 _ _ rfl 44).1 (by decide) (by decide)
          have K92 : rK1 8 M0 M74 o0 x1.toNatClampNeg := kKH_24.same (((sA_c I_24 J77 (I_24.up h_o0) (by decide +kernel)) : sA [8] _ _ _) 8 rfl)
          rw [show (0 : Int32).toInt = 0 from by decide] at f84
          rw [show (7 : Int32).toInt = 7 from by decide] at f84
          obtain ⟨s93, e94⟩ : ∃ s9 : p_S, p_num pb pn 0 7 s25 = s9 := ⟨_, rfl⟩
          rw [e94] at f84
          have := f84.w
          have := mz_shl9 (v := v80) (by have := R81.1 15 _ _ rfl; have := R81.1 16 _ _ rfl; have := R81.1 19 _ _ rfl; omega) (by have := R81.1 15 _ _ rfl; have := R81.1 16 _ _ rfl; have := R81.1 19 _ _ rfl; omega)
          refine mv_ishl d_TrustDeskModel_readMarks_34 ?_
          have := mz_or9 (a := i2_24) (b := (1 <<< (v80 &&& 31))) (by have := R81.1 15 _ _ rfl; have := R81.1 16 _ _ rfl; have := R81.1 19 _ _ rfl; omega) (by have := R81.1 15 _ _ rfl; have := R81.1 16 _ _ rfl; have := R81.1 19 _ _ rfl; omega) (by have := R81.1 15 _ _ rfl; have := R81.1 16 _ _ rfl; have := R81.1 19 _ _ rfl; omega) (by have := R81.1 15 _ _ rfl; have := R81.1 16 _ _ rfl; have := R81.1 19 _ _ rfl; omega)
          refine mv_ior d_TrustDeskModel_readMarks_35 ?_
          refine mv_istore_n (lv' := [(2, .int (i2_24 ||| (1 <<< (v80 &&& 31)))), (0, .ref o0), (1, .int x1)]) d_TrustDeskModel_readMarks_36 rfl (by decide) rfl ?_
          refine mv_goto (tgt := 10) d_TrustDeskModel_readMarks_37 (by decide) ?_
          have T95 : ∃ s1 : p_S, pO M74 o0 pb pn pa s1 ∧ p_lp pn (p_ma1 pb pn) s1 = p_mar pb pn ps := ⟨s93, f84, (by have st : (p_ma1 pb pn) s25 = s93 := (by have := Z926.s2 (by omega) (by omega); rw [show (p_ma1 pb pn) s25 = p_num pb pn 0 7 s25 from if_pos ⟨by omega, by omega⟩]; simp only [e94]); rw [← st, p_P.go p_ma1_P s25]; exact e27)⟩
          have E96 : rE M0 M74 o0 0 0 := E91.less (by decide)
          exact (ih24 (i2_24 ||| (1 <<< (v80 &&& 31))) T76 M74 n75 I78 t86 (by have := R81.1 15 _ _ rfl; have := R81.1 16 _ _ rfl; have := R81.1 19 _ _ rfl; first | omega | decide | exact fun h9 => absurd (by decide) h9) (by have := R81.1 15 _ _ rfl; have := R81.1 16 _ _ rfl; have := R81.1 19 _ _ rfl; first | omega | decide | exact fun h9 => absurd (by decide) h9) R81 E96 K92 T95 (by have := R81.1 15 _ _ rfl; have := R81.1 16 _ _ rfl; have := R81.1 19 _ _ rfl; exact Classical.byCases (fun w9 : rv M74 o0 19 = 0 => by have u91 : rv M74 o0 19 = 0 := (by omega); have := f87.o u91; have := f88.o u91; have := f85.o u91; omega) (fun w9 : ¬ rv M74 o0 19 = 0 => by omega)))
  have T97 : ∃ s1 : p_S, pO M3 o0 pb pn pa s1 ∧ p_lp pn (p_ma1 pb pn) s1 = p_mar pb pn ps := ⟨s22, f13, (by rw [← e23]; rfl)⟩
  have E98 : rE M0 M3 o0 0 0 := E20.less (by decide)
  exact mv_less (Nat.zero_le _) (Nat.zero_le _) (L10_24 4294967296 (1 <<< (v9 &&& 31)) T5 M3 n4 I7 t15 (by have := R10.1 15 _ _ rfl; have := R10.1 16 _ _ rfl; have := R10.1 19 _ _ rfl; first | omega | decide | exact fun h9 => absurd (by decide) h9) (by have := R10.1 15 _ _ rfl; have := R10.1 16 _ _ rfl; have := R10.1 19 _ _ rfl; first | omega | decide | exact fun h9 => absurd (by decide) h9) R10 E98 K21 T97 (by have := R10.1 15 _ _ rfl; have := R10.1 16 _ _ rfl; have := R10.1 19 _ _ rfl; exact Classical.byCases (fun w9 : rv M3 o0 19 = 0 => by have u91 : rv M3 o0 19 = 0 := (by omega); have := f16.o u91; have := f17.o u91; have := f14.o u91; omega) (fun w9 : ¬ rv M3 o0 19 = 0 => by omega)))
abbrev kY_TrustDeskModel_starts : mj_Y := (⟨"TrustDeskModel", "starts", "(Z)V"⟩, prog_14_method_41_code, 2, (Option.none : Option Jvm.ClassFile.FieldType))
theorem d_TrustDeskModel_starts_0 : decode kY_TrustDeskModel_starts.2.1 0 = .ok (.aload_n 0, 1) := by decide +kernel
theorem d_TrustDeskModel_starts_1 : decode kY_TrustDeskModel_starts.2.1 1 = .ok (.iload_n 1, 1) := by decide +kernel
theorem d_TrustDeskModel_starts_2 : decode kY_TrustDeskModel_starts.2.1 2 = .ok (.putfield 267, 3) := by decide +kernel
theorem p_TrustDeskModel_267_13 : mj_fp "TrustDeskModel" 267 13 23 (kt_TrustDeskModel 23) false := ⟨kR_TrustDeskModel, kF_TrustDeskModel, 72, "TrustDeskModel", kt_TrustDeskModel, rfl, kg_13, by decide, (mj_in1 (List.mem_of_getElem? (i := 1409) (by decide +kernel)) rfl), Or.inl rfl, kto_TrustDeskModel, kn_TrustDeskModel, rfl, rfl, fun h => by cases h⟩
theorem d_TrustDeskModel_starts_5 : decode kY_TrustDeskModel_starts.2.1 5 = .ok (.aload_n 0, 1) := by decide +kernel
theorem d_TrustDeskModel_starts_6 : decode kY_TrustDeskModel_starts.2.1 6 = .ok (.iconst 0, 1) := by decide +kernel
theorem d_TrustDeskModel_starts_7 : decode kY_TrustDeskModel_starts.2.1 7 = .ok (.putfield 224, 3) := by decide +kernel
theorem d_TrustDeskModel_starts_10 : decode kY_TrustDeskModel_starts.2.1 10 = .ok (.aload_n 0, 1) := by decide +kernel
theorem d_TrustDeskModel_starts_11 : decode kY_TrustDeskModel_starts.2.1 11 = .ok (.iconst 0, 1) := by decide +kernel
theorem d_TrustDeskModel_starts_12 : decode kY_TrustDeskModel_starts.2.1 12 = .ok (.putfield 192, 3) := by decide +kernel
theorem d_TrustDeskModel_starts_15 : decode kY_TrustDeskModel_starts.2.1 15 = .ok (.aload_n 0, 1) := by decide +kernel
theorem d_TrustDeskModel_starts_16 : decode kY_TrustDeskModel_starts.2.1 16 = .ok (.iconst 0, 1) := by decide +kernel
theorem d_TrustDeskModel_starts_17 : decode kY_TrustDeskModel_starts.2.1 17 = .ok (.putfield 276, 3) := by decide +kernel
theorem d_TrustDeskModel_starts_20 : decode kY_TrustDeskModel_starts.2.1 20 = .ok (.aload_n 0, 1) := by decide +kernel
theorem d_TrustDeskModel_starts_21 : decode kY_TrustDeskModel_starts.2.1 21 = .ok (.iconst 0, 1) := by decide +kernel
theorem d_TrustDeskModel_starts_22 : decode kY_TrustDeskModel_starts.2.1 22 = .ok (.putfield 321, 3) := by decide +kernel
theorem p_TrustDeskModel_321_13 : mj_fp "TrustDeskModel" 321 13 24 (kt_TrustDeskModel 24) false := ⟨kR_TrustDeskModel, kF_TrustDeskModel, 72, "TrustDeskModel", kt_TrustDeskModel, rfl, kg_13, by decide, (mj_in1 (List.mem_of_getElem? (i := 1410) (by decide +kernel)) rfl), Or.inl rfl, kto_TrustDeskModel, kn_TrustDeskModel, rfl, rfl, fun h => by cases h⟩
theorem d_TrustDeskModel_starts_25 : decode kY_TrustDeskModel_starts.2.1 25 = .ok (.aload_n 0, 1) := by decide +kernel
theorem d_TrustDeskModel_starts_26 : decode kY_TrustDeskModel_starts.2.1 26 = .ok (.getfield 20, 3) := by decide +kernel
theorem d_TrustDeskModel_starts_29 : decode kY_TrustDeskModel_starts.2.1 29 = .ok (.bipush 44, 2) := by decide +kernel
theorem d_TrustDeskModel_starts_31 : decode kY_TrustDeskModel_starts.2.1 31 = .ok (.iconst 0, 1) := by decide +kernel
theorem d_TrustDeskModel_starts_32 : decode kY_TrustDeskModel_starts.2.1 32 = .ok (.iastore, 1) := by decide +kernel
theorem d_TrustDeskModel_starts_33 : decode kY_TrustDeskModel_starts.2.1 33 = .ok (.aload_n 0, 1) := by decide +kernel
theorem d_TrustDeskModel_starts_34 : decode kY_TrustDeskModel_starts.2.1 34 = .ok (.getfield 23, 3) := by decide +kernel
theorem d_TrustDeskModel_starts_37 : decode kY_TrustDeskModel_starts.2.1 37 = .ok (.bipush 44, 2) := by decide +kernel
theorem d_TrustDeskModel_starts_39 : decode kY_TrustDeskModel_starts.2.1 39 = .ok (.iconst 0, 1) := by decide +kernel
theorem d_TrustDeskModel_starts_40 : decode kY_TrustDeskModel_starts.2.1 40 = .ok (.iastore, 1) := by decide +kernel
theorem d_TrustDeskModel_starts_41 : decode kY_TrustDeskModel_starts.2.1 41 = .ok (.aload_n 0, 1) := by decide +kernel
theorem d_TrustDeskModel_starts_42 : decode kY_TrustDeskModel_starts.2.1 42 = .ok (.invokevirtual 237, 3) := by decide +kernel
theorem d_TrustDeskModel_starts_45 : decode kY_TrustDeskModel_starts.2.1 45 = .ok (.return_, 1) := by decide +kernel
def w_TrustDeskModel_starts_x : List Nat := [1315, 1316, 1317, 1318, 1319, 1322, 1323, 1324, 20005, 20006]
set_option maxHeartbeats 100000000 in theorem tc_TrustDeskModel_starts_x {g : mj_G} {l : Launch} {d : Nat} {T0 : tm_H} {M0 : mj_M} {n0 x9 : Nat} {o0 : Nat} {x1 : Int32} (h_o0 : T0 o0 = some (0, 13, 0)) (hn0 : 0 ≤ x1.toInt ∧ x1.toInt ≤ 1) (yR : rI M0 o0) {pb : Nat → Int} {pn : Nat} (yXT : pX M0 o0 pb pn) (I0 : tm_I tm_FT (tm_in w_TrustDeskModel_starts_x) x9 T0 M0 n0 T0 M0 n0) : mj_Met g l kY_TrustDeskModel_starts (d + 2) [.ref o0, .int x1] M0 n0 0 0 (tm_Q tm_FT (tm_in w_TrustDeskModel_starts_x) x9 T0 M0 n0 (fun r _ M => r = none ∧ rI M o0 ∧ (rT M o0) ∧ (rv M o0 19 = 0) ∧ (rv M o0 22 = 0) ∧ (rv M o0 24 = 0) ∧ (ra M o0 5 44 = 0) ∧ (ra M o0 6 44 = 0) ∧ (pO M o0 pb pn (if x1.toInt = 0 then (10 : Int) else 13) (0, 0, 0)))) := by
  refine mj_enter (by decide) (Nat.le_of_ble_eq_true rfl) ?_
  refine mv_aload_n d_TrustDeskModel_starts_0 rfl rfl ?_
  refine mv_iload_n d_TrustDeskModel_starts_1 rfl rfl ?_
  refine tr_putR (k := 23) I0 yR h_o0 rfl ⟨_, rfl⟩ (fun _ h => by cases h) rfl (fun lo hi h => by cases h) (Or.inl (by decide)) d_TrustDeskModel_starts_2 p_TrustDeskModel_267_13 (mz_nb (by omega) (by omega)) (mz_fz (by omega) (by omega)) (fun M1 I2 q3 K4 R5 A6 V7 => ?_)
  have z8 := (V7 15 (by decide))
  have z9 := (V7 16 (by decide))
  have z10 := (V7 17 (by decide))
  have z11 := (V7 19 (by decide))
  have z12 := (V7 22 (by decide))
  have z13 := (V7 24 (by decide))
  have z14 := (A6 5 (by decide) 44)
  have z15 := (A6 6 (by decide) 44)
  have z16 : rv M1 o0 23 = x1.toInt := tm_rv q3
  have K17 : pX M1 o0 pb pn := yXT.same (sA_f A6 (by decide)) (sF_f V7 (by decide))
  refine mv_aload_n d_TrustDeskModel_starts_5 rfl rfl ?_
  refine mv_iconst (v := 0) d_TrustDeskModel_starts_6 (by decide) ?_
  refine tr_putR (k := 19) I2 R5 h_o0 rfl ⟨_, rfl⟩ (fun _ h => by cases h) rfl (fun lo hi h => by cases h; have e9 : (0 : Int32).toInt = 0 := (by decide); exact ⟨by show (0 : Int) ≤ (0 : Int32).toInt; omega, by show (0 : Int32).toInt ≤ (4 : Int); omega⟩) (Or.inl (by decide)) d_TrustDeskModel_starts_7 p_TrustDeskModel_224_13 rfl rfl (fun M18 I19 q20 K21 R22 A23 V24 => ?_)
  have z25 := (V24 15 (by decide)).trans z8
  have z26 := (V24 16 (by decide)).trans z9
  have z27 := (V24 17 (by decide)).trans z10
  have z28 := (V24 22 (by decide)).trans z12
  have z29 := (V24 24 (by decide)).trans z13
  have z30 := (V24 23 (by decide)).trans z16
  have z31 := (A23 5 (by decide) 44).trans z14
  have z32 := (A23 6 (by decide) 44).trans z15
  have z33 : rv M18 o0 19 = 0 := tm_rv q20
  have K34 : pX M18 o0 pb pn := K17.same (sA_f A23 (by decide)) (sF_f V24 (by decide))
  clear z8 z9 z10 z12 z13 z16 z14 z15
  refine mv_aload_n d_TrustDeskModel_starts_10 rfl rfl ?_
  refine mv_iconst (v := 0) d_TrustDeskModel_starts_11 (by decide) ?_
  refine tr_putR (k := 15) I19 R22 h_o0 rfl ⟨_, rfl⟩ (fun _ h => by cases h) rfl (fun lo hi h => by cases h; have e9 : (0 : Int32).toInt = 0 := (by decide); exact ⟨by show (0 : Int) ≤ (0 : Int32).toInt; omega, by show (0 : Int32).toInt ≤ (400 : Int); omega⟩) (Or.inl (by decide)) d_TrustDeskModel_starts_12 p_TrustDeskModel_192_13 rfl rfl (fun M35 I36 q37 K38 R39 A40 V41 => ?_)
  have z42 := (V41 16 (by decide)).trans z26
  have z43 := (V41 17 (by decide)).trans z27
  have z44 := (V41 19 (by decide)).trans z33
  have z45 := (V41 22 (by decide)).trans z28
  have z46 := (V41 24 (by decide)).trans z29
  have z47 := (V41 23 (by decide)).trans z30
  have z48 := (A40 5 (by decide) 44).trans z31
  have z49 := (A40 6 (by decide) 44).trans z32
  have z50 : rv M35 o0 15 = 0 := tm_rv q37
  have K51 : pX M35 o0 pb pn := K34.same (sA_f A40 (by decide)) (sF_f V41 (by decide))
  clear z26 z27 z28 z29 z30 z31 z32
  refine mv_aload_n d_TrustDeskModel_starts_15 rfl rfl ?_
  refine mv_iconst (v := 0) d_TrustDeskModel_starts_16 (by decide) ?_
  refine tr_putR (k := 22) I36 R39 h_o0 rfl ⟨_, rfl⟩ (fun _ h => by cases h) rfl (fun lo hi h => by cases h) (Or.inl (by decide)) d_TrustDeskModel_starts_17 p_TrustDeskModel_276_13 rfl rfl (fun M52 I53 q54 K55 R56 A57 V58 => ?_)
  have z59 := (V58 15 (by decide)).trans z50
  have z60 := (V58 16 (by decide)).trans z42
  have z61 := (V58 17 (by decide)).trans z43
  have z62 := (V58 19 (by decide)).trans z44
  have z63 := (V58 24 (by decide)).trans z46
  have z64 := (V58 23 (by decide)).trans z47
  have z65 := (A57 5 (by decide) 44).trans z48
  have z66 := (A57 6 (by decide) 44).trans z49
  have z67 : rv M52 o0 22 = 0 := tm_rv q54
  have K68 : pX M52 o0 pb pn := K51.same (sA_f A57 (by decide)) (sF_f V58 (by decide))
  clear z50 z42 z43 z46 z47 z48 z49
  refine mv_aload_n d_TrustDeskModel_starts_20 rfl rfl ?_
  refine mv_iconst (v := 0) d_TrustDeskModel_starts_21 (by decide) ?_
  refine tr_putR (k := 24) I53 R56 h_o0 rfl ⟨_, rfl⟩ (fun _ h => by cases h) rfl (fun lo hi h => by cases h; have e9 : (0 : Int32).toInt = 0 := (by decide); exact ⟨by show (0 : Int) ≤ (0 : Int32).toInt; omega, by show (0 : Int32).toInt ≤ (6 : Int); omega⟩) (Or.inl (by decide)) d_TrustDeskModel_starts_22 p_TrustDeskModel_321_13 rfl rfl (fun M69 I70 q71 K72 R73 A74 V75 => ?_)
  have z76 := (V75 15 (by decide)).trans z59
  have z77 := (V75 16 (by decide)).trans z60
  have z78 := (V75 17 (by decide)).trans z61
  have z79 := (V75 19 (by decide)).trans z62
  have z80 := (V75 22 (by decide)).trans z67
  have z81 := (V75 23 (by decide)).trans z64
  have z82 := (A74 5 (by decide) 44).trans z65
  have z83 := (A74 6 (by decide) 44).trans z66
  have z84 : rv M69 o0 24 = 0 := tm_rv q71
  have K85 : pX M69 o0 pb pn := K68.same (sA_f A74 (by decide)) (sF_f V75 (by decide))
  clear z59 z60 z61 z67 z64 z65 z66
  refine mv_aload_n d_TrustDeskModel_starts_25 rfl rfl ?_
  obtain ⟨a87, q86, t_a87⟩ := tm_atR I70 h_o0 (k := 5) rfl
  refine tr_getK q86 d_TrustDeskModel_starts_26 f_TrustDeskModel_20_13 ?_
  refine mv_bipush (v := 44) d_TrustDeskModel_starts_29 (by decide) ?_
  refine mv_iconst (v := 0) d_TrustDeskModel_starts_31 (by decide) ?_
  refine tr_iastR (k := 5) I70 R73 (I70.up h_o0) q86 t_a87 (by decide) (by decide) (fun lo hi h => by cases h; have e9 : (0 : Int32).toInt = 0 := (by decide); exact ⟨by show (0 : Int) ≤ (0 : Int32).toInt; omega, by show (0 : Int32).toInt ≤ (400 : Int); omega⟩) (Or.inl (by decide)) d_TrustDeskModel_starts_32 (by unfold vp_in; decide) (fun M88 I89 K90 R91 E92 A93 V94 => ?_)
  have z95 := (V94 15).trans z76
  have z96 := (V94 16).trans z77
  have z97 := (V94 17).trans z78
  have z98 := (V94 19).trans z79
  have z99 := (V94 22).trans z80
  have z100 := (V94 24).trans z84
  have z101 := (V94 23).trans z81
  have z102 := (A93 6 (by decide) rfl 44).trans z83
  have z103 : ra M88 o0 5 44 = 0 := (E92 44).trans (if_pos (by decide))
  have K104 : pX M88 o0 pb pn := K85.same (sA_a A93 (by decide +kernel)) (sF_a V94)
  clear z76 z77 z78 z80 z84 z81 z83
  refine mv_aload_n d_TrustDeskModel_starts_33 rfl rfl ?_
  obtain ⟨a106, q105, t_a106⟩ := tm_atR I89 h_o0 (k := 6) rfl
  refine tr_getK q105 d_TrustDeskModel_starts_34 f_TrustDeskModel_23_13 ?_
  refine mv_bipush (v := 44) d_TrustDeskModel_starts_37 (by decide) ?_
  refine mv_iconst (v := 0) d_TrustDeskModel_starts_39 (by decide) ?_
  refine tr_iastR (k := 6) I89 R91 (I89.up h_o0) q105 t_a106 (by decide) (by decide) (fun lo hi h => by cases h; have e9 : (0 : Int32).toInt = 0 := (by decide); exact ⟨by show (0 : Int) ≤ (0 : Int32).toInt; omega, by show (0 : Int32).toInt ≤ (20 : Int); omega⟩) (Or.inl (by decide)) d_TrustDeskModel_starts_40 (by unfold vp_in; decide) (fun M107 I108 K109 R110 E111 A112 V113 => ?_)
  have z114 := (V113 15).trans z95
  have z115 := (V113 16).trans z96
  have z116 := (V113 17).trans z97
  have z117 := (V113 19).trans z98
  have z118 := (V113 22).trans z99
  have z119 := (V113 24).trans z100
  have z120 := (V113 23).trans z101
  have z121 := (A112 5 (by decide) rfl 44).trans z103
  have z122 : ra M107 o0 6 44 = 0 := (E111 44).trans (if_pos (by decide))
  have K123 : pX M107 o0 pb pn := K104.same (sA_a A112 (by decide +kernel)) (sF_a V113)
  clear z95 z96 z97 z99 z100 z101 z103
  refine mv_aload_n d_TrustDeskModel_starts_41 rfl rfl ?_
  obtain ⟨_, b130, -⟩ := I108.1 _ _ h_o0
  refine mv_callV (kc' := 0) (ks' := 0) (As := []) (st9 := [.ref o0]) d_TrustDeskModel_starts_42 lV_TrustDeskModel_237 b130 rfl (tc_TrustDeskModel_next_x (d := d) (x9 := x9) (o0 := o0) h_o0 R110 (pX.start (na := (if x1.toInt = 0 then (10 : Int) else 13)) K123 (if h9 : x1.toInt = 0 then Or.inl ⟨by have := R110.1 15 _ _ rfl; have := R110.1 16 _ _ rfl; have := R110.1 19 _ _ rfl; omega, if_pos h9⟩ else Or.inr ⟨by have := R110.1 15 _ _ rfl; have := R110.1 16 _ _ rfl; have := R110.1 19 _ _ rfl; omega, if_neg h9⟩) (by have := R110.1 15 _ _ rfl; have := R110.1 16 _ _ rfl; have := R110.1 19 _ _ rfl; omega) (by have := R110.1 15 _ _ rfl; have := R110.1 16 _ _ rfl; have := R110.1 19 _ _ rfl; omega)) I108.start) rfl (Nat.le_of_ble_eq_true rfl) (Nat.le_of_ble_eq_true rfl) (Nat.le_of_ble_eq_true rfl) (hst := rfl) (fun b124r M125 n126 b124 => ?_)
  obtain ⟨T127, J128, rfl, R131, f132, f133, f134⟩ := b124
  have I129 := I108.call J128 (tm_sub (by decide)) (Or.inl rfl)
  have t135 := J128.up h_o0
  have z136 := (rv_c I108 J128 (I108.up h_o0) (k := 19) rfl).trans z117
  have z137 := (rv_c I108 J128 (I108.up h_o0) (k := 22) rfl).trans z118
  have z138 := (rv_c I108 J128 (I108.up h_o0) (k := 24) rfl).trans z119
  have z139 := (rv_c I108 J128 (I108.up h_o0) (k := 23) rfl).trans z120
  have z140 := (ra_call I108 J128 (I108.up h_o0) (k := 5) rfl rfl rfl 44).trans z121
  have z141 := (ra_call I108 J128 (I108.up h_o0) (k := 6) rfl rfl rfl 44).trans z122
  have K142 : pX M125 o0 pb pn := K123.same (sA_c I108 J128 (I108.up h_o0) (by decide +kernel)) (sF_c I108 J128 (I108.up h_o0) (by decide +kernel))
  clear z118 z119 z120 z121 z122
  have q143 := J128.keep h_o0 (by decide) (K109 _ 13 23 _ (K90 _ 13 23 _ (K72 _ 13 23 _ rfl (K55 _ 13 23 _ rfl (K38 _ 13 23 _ rfl (K21 _ 13 23 _ rfl q3))))))
  have q144 := J128.keep h_o0 (by decide) (K109 _ 13 19 _ (K90 _ 13 19 _ (K72 _ 13 19 _ rfl (K55 _ 13 19 _ rfl (K38 _ 13 19 _ rfl q20)))))
  have q145 := J128.keep h_o0 (by decide) (K109 _ 13 22 _ (K90 _ 13 22 _ (K72 _ 13 22 _ rfl q54)))
  have q146 := J128.keep h_o0 (by decide) (K109 _ 13 24 _ (K90 _ 13 24 _ q71))
  have q147 := J128.keep h_o0 (by decide) (K109 _ 13 5 _ (K90 _ 13 5 _ q86))
  have t148 := J128.up t_a87
  have q149 := J128.keep h_o0 (by decide) (K109 _ 13 6 _ q105)
  have t150 := J128.up t_a106
  exact mv_vret d_TrustDeskModel_starts_45 rfl ⟨_, I129, rfl, R131, f132, (by have := R131.1 15 _ _ rfl; have := R131.1 16 _ _ rfl; have := R131.1 19 _ _ rfl; omega), (by have := R131.1 15 _ _ rfl; have := R131.1 16 _ _ rfl; have := R131.1 19 _ _ rfl; omega), (by have := R131.1 15 _ _ rfl; have := R131.1 16 _ _ rfl; have := R131.1 19 _ _ rfl; omega), (by have := R131.1 15 _ _ rfl; have := R131.1 16 _ _ rfl; have := R131.1 19 _ _ rfl; omega), (by have := R131.1 15 _ _ rfl; have := R131.1 16 _ _ rfl; have := R131.1 19 _ _ rfl; omega), f134⟩
