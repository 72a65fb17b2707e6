abbrev kY_TrustDeskModel_number : mj_Y := (⟨"TrustDeskModel", "number", "(II)I"⟩, prog_14_method_33_code, 4, (Option.some Jvm.ClassFile.FieldType.int))
theorem d_TrustDeskModel_number_0 : decode kY_TrustDeskModel_number.2.1 0 = .ok (.aload_n 0, 1) := by decide +kernel
theorem d_TrustDeskModel_number_1 : decode kY_TrustDeskModel_number.2.1 1 = .ok (.invokevirtual 230, 3) := by decide +kernel
theorem d_TrustDeskModel_number_4 : decode kY_TrustDeskModel_number.2.1 4 = .ok (.ifCond .eq 16, 3) := by decide +kernel
theorem d_TrustDeskModel_number_20 : decode kY_TrustDeskModel_number.2.1 20 = .ok (.aload_n 0, 1) := by decide +kernel
theorem d_TrustDeskModel_number_21 : decode kY_TrustDeskModel_number.2.1 21 = .ok (.invokevirtual 230, 3) := by decide +kernel
theorem d_TrustDeskModel_number_24 : decode kY_TrustDeskModel_number.2.1 24 = .ok (.ifCond .eq 23, 3) := by decide +kernel
theorem d_TrustDeskModel_number_47 : decode kY_TrustDeskModel_number.2.1 47 = .ok (.aload_n 0, 1) := by decide +kernel
theorem d_TrustDeskModel_number_48 : decode kY_TrustDeskModel_number.2.1 48 = .ok (.invokevirtual 230, 3) := by decide +kernel
theorem d_TrustDeskModel_number_51 : decode kY_TrustDeskModel_number.2.1 51 = .ok (.ifCond .ne 5, 3) := by decide +kernel
theorem d_TrustDeskModel_number_54 : decode kY_TrustDeskModel_number.2.1 54 = .ok (.iconst 0, 1) := by decide +kernel
theorem d_TrustDeskModel_number_55 : decode kY_TrustDeskModel_number.2.1 55 = .ok (.ireturn, 1) := by decide +kernel
theorem d_TrustDeskModel_number_56 : decode kY_TrustDeskModel_number.2.1 56 = .ok (.aload_n 0, 1) := by decide +kernel
theorem d_TrustDeskModel_number_57 : decode kY_TrustDeskModel_number.2.1 57 = .ok (.getfield 201, 3) := by decide +kernel
theorem d_TrustDeskModel_number_60 : decode kY_TrustDeskModel_number.2.1 60 = .ok (.istore_n 3, 1) := by decide +kernel
theorem d_TrustDeskModel_number_61 : decode kY_TrustDeskModel_number.2.1 61 = .ok (.aload_n 0, 1) := by decide +kernel
theorem d_TrustDeskModel_number_62 : decode kY_TrustDeskModel_number.2.1 62 = .ok (.invokevirtual 237, 3) := by decide +kernel
theorem d_TrustDeskModel_number_65 : decode kY_TrustDeskModel_number.2.1 65 = .ok (.iload_n 3, 1) := by decide +kernel
theorem d_TrustDeskModel_number_66 : decode kY_TrustDeskModel_number.2.1 66 = .ok (.ireturn, 1) := by decide +kernel
theorem d_TrustDeskModel_number_27 : decode kY_TrustDeskModel_number.2.1 27 = .ok (.aload_n 0, 1) := by decide +kernel
theorem d_TrustDeskModel_number_28 : decode kY_TrustDeskModel_number.2.1 28 = .ok (.getfield 201, 3) := by decide +kernel
theorem d_TrustDeskModel_number_31 : decode kY_TrustDeskModel_number.2.1 31 = .ok (.i2l, 1) := by decide +kernel
theorem d_TrustDeskModel_number_32 : decode kY_TrustDeskModel_number.2.1 32 = .ok (.iload_n 1, 1) := by decide +kernel
theorem d_TrustDeskModel_number_33 : decode kY_TrustDeskModel_number.2.1 33 = .ok (.i2l, 1) := by decide +kernel
theorem d_TrustDeskModel_number_34 : decode kY_TrustDeskModel_number.2.1 34 = .ok (.iload_n 2, 1) := by decide +kernel
theorem d_TrustDeskModel_number_35 : decode kY_TrustDeskModel_number.2.1 35 = .ok (.i2l, 1) := by decide +kernel
theorem d_TrustDeskModel_number_36 : decode kY_TrustDeskModel_number.2.1 36 = .ok (.invokestatic 169, 3) := by decide +kernel
abbrev kY_TrustDeskModel_within : mj_Y := (⟨"TrustDeskModel", "within", "(JJJ)Z"⟩, prog_14_method_2_code, 6, (Option.some Jvm.ClassFile.FieldType.boolean))
theorem lS_TrustDeskModel_169 : mj_lS "TrustDeskModel" 169 kY_TrustDeskModel_within 3 := ⟨⟨(mj_in1 (List.mem_of_getElem? (i := 1608) (by decide +kernel)) rfl), (mj_in1 (List.mem_of_getElem? (i := 10) (by decide +kernel)) rfl), (mj_in1 (List.mem_of_getElem? (i := 1610) (by decide +kernel)) rfl), by decide, rfl, by decide⟩, (mj_in1 (List.mem_of_getElem? (i := 1609) (by decide +kernel)) rfl)⟩
theorem d_TrustDeskModel_within_0 : decode kY_TrustDeskModel_within.2.1 0 = .ok (.lload_n 0, 1) := by decide +kernel
theorem d_TrustDeskModel_within_1 : decode kY_TrustDeskModel_within.2.1 1 = .ok (.lload_n 2, 1) := by decide +kernel
theorem d_TrustDeskModel_within_2 : decode kY_TrustDeskModel_within.2.1 2 = .ok (.lcmp, 1) := by decide +kernel
theorem d_TrustDeskModel_within_3 : decode kY_TrustDeskModel_within.2.1 3 = .ok (.ifCond .lt 14, 3) := by decide +kernel
theorem d_TrustDeskModel_within_17 : decode kY_TrustDeskModel_within.2.1 17 = .ok (.iconst 0, 1) := by decide +kernel
theorem d_TrustDeskModel_within_18 : decode kY_TrustDeskModel_within.2.1 18 = .ok (.ireturn, 1) := by decide +kernel
theorem d_TrustDeskModel_number_39 : decode kY_TrustDeskModel_number.2.1 39 = .ok (.ifCond .ne 8, 3) := by decide +kernel
theorem d_TrustDeskModel_number_42 : decode kY_TrustDeskModel_number.2.1 42 = .ok (.aload_n 0, 1) := by decide +kernel
theorem d_TrustDeskModel_number_43 : decode kY_TrustDeskModel_number.2.1 43 = .ok (.iconst 2, 1) := by decide +kernel
theorem d_TrustDeskModel_number_44 : decode kY_TrustDeskModel_number.2.1 44 = .ok (.invokevirtual 240, 3) := by decide +kernel
theorem d_TrustDeskModel_within_6 : decode kY_TrustDeskModel_within.2.1 6 = .ok (.lload_n 0, 1) := by decide +kernel
theorem d_TrustDeskModel_within_7 : decode kY_TrustDeskModel_within.2.1 7 = .ok (.lload 4, 2) := by decide +kernel
theorem d_TrustDeskModel_within_9 : decode kY_TrustDeskModel_within.2.1 9 = .ok (.lcmp, 1) := by decide +kernel
theorem d_TrustDeskModel_within_10 : decode kY_TrustDeskModel_within.2.1 10 = .ok (.ifCond .gt 7, 3) := by decide +kernel
theorem d_TrustDeskModel_within_13 : decode kY_TrustDeskModel_within.2.1 13 = .ok (.iconst 1, 1) := by decide +kernel
theorem d_TrustDeskModel_within_14 : decode kY_TrustDeskModel_within.2.1 14 = .ok (.goto 4, 3) := by decide +kernel
theorem d_TrustDeskModel_number_7 : decode kY_TrustDeskModel_number.2.1 7 = .ok (.aload_n 0, 1) := by decide +kernel
theorem d_TrustDeskModel_number_8 : decode kY_TrustDeskModel_number.2.1 8 = .ok (.getfield 198, 3) := by decide +kernel
theorem d_TrustDeskModel_number_11 : decode kY_TrustDeskModel_number.2.1 11 = .ok (.iconst 2, 1) := by decide +kernel
theorem d_TrustDeskModel_number_12 : decode kY_TrustDeskModel_number.2.1 12 = .ok (.if_icmp .eq 8, 3) := by decide +kernel
theorem d_TrustDeskModel_number_15 : decode kY_TrustDeskModel_number.2.1 15 = .ok (.aload_n 0, 1) := by decide +kernel
theorem d_TrustDeskModel_number_16 : decode kY_TrustDeskModel_number.2.1 16 = .ok (.iconst 1, 1) := by decide +kernel
theorem d_TrustDeskModel_number_17 : decode kY_TrustDeskModel_number.2.1 17 = .ok (.invokevirtual 240, 3) := by decide +kernel
def w_TrustDeskModel_number_x : List Nat := [1315, 1316, 1317, 1318, 1319, 1320]
theorem tc_TrustDeskModel_number_x {g : mj_G} {l : Launch} {d : Nat} {T0 : tm_H} {M0 : mj_M} {n0 x9 : Nat} {o0 : Nat} {x1 : Int32} {x2 : Int32} (h_o0 : T0 o0 = some (0, 13, 0)) (yR : rI M0 o0) (yT : rT M0 o0) (yS : rv M0 o0 19 = 0 → ra M0 o0 5 44 ≤ rv M0 o0 16) (I0 : tm_I tm_FT (tm_in w_TrustDeskModel_number_x) x9 T0 M0 n0 T0 M0 n0) : mj_Met g l kY_TrustDeskModel_number (d + 2) [.ref o0, .int x1, .int x2] M0 n0 0 0 (tm_Q tm_FT (tm_in w_TrustDeskModel_number_x) x9 T0 M0 n0 (fun r _ M => ∃ v : Int32, r = some (.int v) ∧ rI M o0 ∧ (rE M0 M o0 0 1) ∧ (v.toInt = 0 ∨ (x1.toInt ≤ v.toInt ∧ v.toInt ≤ x2.toInt)))) := by
  refine mj_enter (by decide) (Nat.le_of_ble_eq_true rfl) ?_
  have yE0 := rE.rf yT
  refine mv_aload_n d_TrustDeskModel_number_0 rfl rfl ?_
  obtain ⟨_, b1, -⟩ := I0.1 _ _ h_o0
  refine mv_callV (kc1 := 0) (ks1 := 0) (kc' := 0) (ks' := 0) (As := []) (st9 := [.ref o0]) d_TrustDeskModel_number_1 lV_TrustDeskModel_230 b1 rfl (mj_enter (by decide) (Nat.le_of_ble_eq_true rfl) ?_) rfl (Nat.le_of_ble_eq_true rfl) (Nat.le_of_ble_eq_true rfl) (Nat.le_of_ble_eq_true rfl) (hst := rfl) (fun _ _ _ h => h)
  refine mv_aload_n d_TrustDeskModel_isWell_0 rfl rfl ?_
  obtain ⟨v3, q2⟩ := tm_atI I0 h_o0 (k := 19) rfl
  refine tr_getK q2 d_TrustDeskModel_isWell_1 f_TrustDeskModel_224_13 ?_
  have := yR.f (k := 19) q2 rfl
  have := tm_rv q2
  have := mz_hi v3
  refine mv_if_neZ (tgt := 11) (a := v3.toInt) d_TrustDeskModel_isWell_4 (by decide) rfl (fun b4 => ?_) (fun b4 => ?_)
  · refine mv_iconst (v := 0) d_TrustDeskModel_isWell_11 (by decide) ?_
    refine mv_iret d_TrustDeskModel_isWell_12 rfl (by decide) ?_
    refine mv_if_eq_t (tgt := 20) d_TrustDeskModel_number_4 (by decide) (by decide) ?_
    refine mv_aload_n d_TrustDeskModel_number_20 rfl rfl ?_
    obtain ⟨_, b5, -⟩ := I0.1 _ _ h_o0
    refine mv_callV (kc1 := 0) (ks1 := 0) (kc' := 0) (ks' := 0) (As := []) (st9 := [.ref o0]) d_TrustDeskModel_number_21 lV_TrustDeskModel_230 b5 rfl (mj_enter (by decide) (Nat.le_of_ble_eq_true rfl) ?_) rfl (Nat.le_of_ble_eq_true rfl) (Nat.le_of_ble_eq_true rfl) (Nat.le_of_ble_eq_true rfl) (hst := rfl) (fun _ _ _ h => h)
    refine mv_aload_n d_TrustDeskModel_isWell_0 rfl rfl ?_
    refine tr_getK (k := 19) q2 d_TrustDeskModel_isWell_1 f_TrustDeskModel_224_13 ?_
    have := mz_hi v3
    refine mv_if_neZ (tgt := 11) (a := v3.toInt) d_TrustDeskModel_isWell_4 (by decide) rfl (fun b6 => ?_) (fun b6 => ?_)
    · refine mv_iconst (v := 0) d_TrustDeskModel_isWell_11 (by decide) ?_
      refine mv_iret d_TrustDeskModel_isWell_12 rfl (by decide) ?_
      refine mv_if_eq_t (tgt := 47) d_TrustDeskModel_number_24 (by decide) (by decide) ?_
      refine mv_aload_n d_TrustDeskModel_number_47 rfl rfl ?_
      obtain ⟨_, b7, -⟩ := I0.1 _ _ h_o0
      refine mv_callV (kc1 := 0) (ks1 := 0) (kc' := 0) (ks' := 0) (As := []) (st9 := [.ref o0]) d_TrustDeskModel_number_48 lV_TrustDeskModel_230 b7 rfl (mj_enter (by decide) (Nat.le_of_ble_eq_true rfl) ?_) rfl (Nat.le_of_ble_eq_true rfl) (Nat.le_of_ble_eq_true rfl) (Nat.le_of_ble_eq_true rfl) (hst := rfl) (fun _ _ _ h => h)
      refine mv_aload_n d_TrustDeskModel_isWell_0 rfl rfl ?_
      refine tr_getK (k := 19) q2 d_TrustDeskModel_isWell_1 f_TrustDeskModel_224_13 ?_
      have := mz_hi v3
      refine mv_if_neZ (tgt := 11) (a := v3.toInt) d_TrustDeskModel_isWell_4 (by decide) rfl (fun b8 => ?_) (fun b8 => ?_)
      · refine mv_iconst (v := 0) d_TrustDeskModel_isWell_11 (by decide) ?_
        refine mv_iret d_TrustDeskModel_isWell_12 rfl (by decide) ?_
        refine mv_if_ne_f (tgt := 56) d_TrustDeskModel_number_51 (by decide) (by decide) ?_
        refine mv_iconst (v := 0) d_TrustDeskModel_number_54 (by decide) ?_
        exact mv_iret d_TrustDeskModel_number_55 rfl (by first | rfl | decide) ⟨_, I0, _, rfl, yR, yE0.vac (by have := yR.1 15 _ _ rfl; have := yR.1 16 _ _ rfl; have := yR.1 19 _ _ rfl; have := yE0.f yS; omega) 0 1, (Or.inl (by decide))⟩
      · refine mv_iconst (v := 1) d_TrustDeskModel_isWell_7 (by decide) ?_
        refine mv_goto (tgt := 12) d_TrustDeskModel_isWell_8 (by decide) ?_
        refine mv_iret d_TrustDeskModel_isWell_12 rfl (by decide) ?_
        refine mv_if_ne_t (tgt := 56) d_TrustDeskModel_number_51 (by decide) (by decide) ?_
        refine mv_aload_n d_TrustDeskModel_number_56 rfl rfl ?_
        obtain ⟨v10, q9⟩ := tm_atI I0 h_o0 (k := 18) rfl
        refine tr_getK q9 d_TrustDeskModel_number_57 f_TrustDeskModel_201_13 ?_
        have := yR.f (k := 18) q9 rfl
        have := tm_rv q9
        refine mv_istore_n (lv' := [(3, .int v10), (0, .ref o0), (1, .int x1), (2, .int x2)]) d_TrustDeskModel_number_60 rfl (by decide) rfl ?_
        refine mv_aload_n d_TrustDeskModel_number_61 rfl rfl ?_
        obtain ⟨_, b17, -⟩ := I0.1 _ _ h_o0
        refine mv_callV (kc' := 0) (ks' := 0) (As := []) (st9 := [.ref o0]) d_TrustDeskModel_number_62 lV_TrustDeskModel_237 b17 rfl (tc_TrustDeskModel_next_x (d := d) (x9 := x9) (o0 := o0) h_o0 yR I0.start) rfl (Nat.le_of_ble_eq_true rfl) (Nat.le_of_ble_eq_true rfl) (Nat.le_of_ble_eq_true rfl) (hst := rfl) (fun b11r M12 n13 b11 => ?_)
        obtain ⟨T14, J15, rfl, R18, f19, f20⟩ := b11
        have I16 := I0.call J15 (tm_sub (by decide)) (Or.inl rfl)
        have t21 := J15.up h_o0
        have := (rv_c I0 J15 (I0.up h_o0) (k := 19) rfl)
        have := (rv_c I0 J15 (I0.up h_o0) (k := 22) rfl)
        have := (rv_c I0 J15 (I0.up h_o0) (k := 24) rfl)
        have := ra_call I0 J15 (I0.up h_o0) (k := 5) rfl rfl rfl 44
        have := ra_call I0 J15 (I0.up h_o0) (k := 6) rfl rfl rfl 44
        have h23 : rv M0 o0 16 + 1 ≤ rv M0 o0 15 := (by have := yR.1 15 _ _ rfl; have := yR.1 16 _ _ rfl; have := yR.1 19 _ _ rfl; have := yE0.f yS; omega)
        have E22 : rE M0 M12 o0 0 1 := yE0.next f19 f20 (rv_c I0 J15 (I0.up h_o0) (k := 19) rfl) (rE_ha I0 J15 (I0.up h_o0) (by decide)) (e := 1) h23 (by decide)
        have q24 := J15.keep h_o0 (by decide) q2
        refine mv_iload_n d_TrustDeskModel_number_65 rfl rfl ?_
        exact mv_iret d_TrustDeskModel_number_66 rfl (by first | rfl | decide) ⟨_, I16, _, rfl, R18, E22, (Or.inr (by have := R18.1 15 _ _ rfl; have := R18.1 16 _ _ rfl; have := R18.1 19 _ _ rfl; have := E22.f yS; omega))⟩
    · refine mv_iconst (v := 1) d_TrustDeskModel_isWell_7 (by decide) ?_
      refine mv_goto (tgt := 12) d_TrustDeskModel_isWell_8 (by decide) ?_
      refine mv_iret d_TrustDeskModel_isWell_12 rfl (by decide) ?_
      refine mv_if_eq_f (tgt := 47) d_TrustDeskModel_number_24 (by decide) (by decide) ?_
      refine mv_aload_n d_TrustDeskModel_number_27 rfl rfl ?_
      obtain ⟨v26, q25⟩ := tm_atI I0 h_o0 (k := 18) rfl
      refine tr_getK q25 d_TrustDeskModel_number_28 f_TrustDeskModel_201_13 ?_
      have := yR.f (k := 18) q25 rfl
      have := tm_rv q25
      refine mv_i2l (v := v26.toInt64) d_TrustDeskModel_number_31 rfl ?_
      refine mv_iload_n d_TrustDeskModel_number_32 rfl rfl ?_
      refine mv_i2l (v := x1.toInt64) d_TrustDeskModel_number_33 rfl ?_
      refine mv_iload_n d_TrustDeskModel_number_34 rfl rfl ?_
      refine mv_i2l (v := x2.toInt64) d_TrustDeskModel_number_35 rfl ?_
      refine mv_callS (kc1 := 0) (ks1 := 0) (kc' := 0) (ks' := 0) (As := [.long v26.toInt64, .long x1.toInt64, .long x2.toInt64]) (st9 := [.long x2.toInt64, .long x1.toInt64, .long v26.toInt64]) d_TrustDeskModel_number_36 lS_TrustDeskModel_169 (mj_enter (by decide) (Nat.le_of_ble_eq_true rfl) ?_) rfl (Nat.le_of_ble_eq_true rfl) (Nat.le_of_ble_eq_true rfl) (Nat.le_of_ble_eq_true rfl) (hst := rfl) (fun _ _ _ h => h)
      refine mv_lload_n d_TrustDeskModel_within_0 rfl rfl ?_
      refine mv_lload_n d_TrustDeskModel_within_1 rfl rfl ?_
      refine mv_lltZ (tgt := 17) (a := v26.toInt) (b := x1.toInt) d_TrustDeskModel_within_2 d_TrustDeskModel_within_3 (by decide) (mz_wide _) (mz_wide _) (fun b27 => ?_) (fun b27 => ?_)
      · refine mv_iconst (v := 0) d_TrustDeskModel_within_17 (by decide) ?_
        refine mv_iret d_TrustDeskModel_within_18 rfl (by decide) ?_
        refine mv_if_ne_f (tgt := 47) d_TrustDeskModel_number_39 (by decide) (by decide) ?_
        refine mv_aload_n d_TrustDeskModel_number_42 rfl rfl ?_
        refine mv_iconst (v := 2) d_TrustDeskModel_number_43 (by decide) ?_
        obtain ⟨_, b34, -⟩ := I0.1 _ _ h_o0
        have : (2 : Int32).toInt = 2 := by decide
        refine mv_callV (kc' := 0) (ks' := 0) (As := [.int 2]) (st9 := [.int 2, .ref o0]) d_TrustDeskModel_number_44 lV_TrustDeskModel_240 b34 rfl (tc_TrustDeskModel_fails_x (d := (d + 1)) (x9 := x9) (o0 := o0) (x1 := 2) h_o0 yR (by decide) I0.start) rfl (Nat.le_of_ble_eq_true rfl) (Nat.le_of_ble_eq_true rfl) (Nat.le_of_ble_eq_true rfl) (hst := rfl) (fun b28r M29 n30 b28 => ?_)
        obtain ⟨T31, J32, rfl, R35, f36⟩ := b28
        have I33 := I0.call J32 (tm_sub (by decide)) (Or.inl rfl)
        have t37 := J32.up h_o0
        have := (rv_c I0 J32 (I0.up h_o0) (k := 15) rfl)
        have := (rv_c I0 J32 (I0.up h_o0) (k := 16) rfl)
        have := (rv_c I0 J32 (I0.up h_o0) (k := 17) rfl)
        have := (rv_c I0 J32 (I0.up h_o0) (k := 22) rfl)
        have := (rv_c I0 J32 (I0.up h_o0) (k := 24) rfl)
        have := ra_call I0 J32 (I0.up h_o0) (k := 5) rfl rfl rfl 44
        have := ra_call I0 J32 (I0.up h_o0) (k := 6) rfl rfl rfl 44
        have E38 : rE M0 M29 o0 0 0 := yE0.fails (rE_hv I0 J32 (I0.up h_o0) 15 18 (by decide)) (rE_ha I0 J32 (I0.up h_o0) (by decide)) f36 0 0
        have q39 := J32.keep h_o0 (by decide) q25
        refine mv_aload_n d_TrustDeskModel_number_47 rfl rfl ?_
        obtain ⟨_, b40, -⟩ := I33.1 _ _ t37
        refine mv_callV (kc1 := 0) (ks1 := 0) (kc' := 0) (ks' := 0) (As := []) (st9 := [.ref o0]) d_TrustDeskModel_number_48 lV_TrustDeskModel_230 b40 rfl (mj_enter (by decide) (Nat.le_of_ble_eq_true rfl) ?_) rfl (Nat.le_of_ble_eq_true rfl) (Nat.le_of_ble_eq_true rfl) (Nat.le_of_ble_eq_true rfl) (hst := rfl) (fun _ _ _ h => h)
        refine mv_aload_n d_TrustDeskModel_isWell_0 rfl rfl ?_
        obtain ⟨v42, q41⟩ := tm_atI I33 t37 (k := 19) rfl
        refine tr_getK q41 d_TrustDeskModel_isWell_1 f_TrustDeskModel_224_13 ?_
        have := R35.f (k := 19) q41 rfl
        have := tm_rv q41
        refine mv_if_neZ (tgt := 11) (a := v42.toInt) d_TrustDeskModel_isWell_4 (by decide) rfl (fun b43 => ?_) (fun b43 => ?_)
        · refine mv_iconst (v := 0) d_TrustDeskModel_isWell_11 (by decide) ?_
          refine mv_iret d_TrustDeskModel_isWell_12 rfl (by decide) ?_
          refine mv_if_ne_f (tgt := 56) d_TrustDeskModel_number_51 (by decide) (by decide) ?_
          refine mv_iconst (v := 0) d_TrustDeskModel_number_54 (by decide) ?_
          exact mv_iret d_TrustDeskModel_number_55 rfl (by first | rfl | decide) ⟨_, I33, _, rfl, R35, E38.vac (by have := R35.1 15 _ _ rfl; have := R35.1 16 _ _ rfl; have := R35.1 19 _ _ rfl; have := E38.f yS; omega) 0 1, (Or.inl (by decide))⟩
        · exfalso
          have := R35.1 15 _ _ rfl; have := R35.1 16 _ _ rfl; have := R35.1 19 _ _ rfl; have := E38.f yS; omega
      · refine mv_lload_n d_TrustDeskModel_within_6 rfl rfl ?_
        refine mv_lload d_TrustDeskModel_within_7 rfl ?_
        refine mv_lgtZ (tgt := 17) (a := v26.toInt) (b := x2.toInt) d_TrustDeskModel_within_9 d_TrustDeskModel_within_10 (by decide) (mz_wide _) (mz_wide _) (fun b44 => ?_) (fun b44 => ?_)
        · refine mv_iconst (v := 0) d_TrustDeskModel_within_17 (by decide) ?_
          refine mv_iret d_TrustDeskModel_within_18 rfl (by decide) ?_
          refine mv_if_ne_f (tgt := 47) d_TrustDeskModel_number_39 (by decide) (by decide) ?_
          refine mv_aload_n d_TrustDeskModel_number_42 rfl rfl ?_
          refine mv_iconst (v := 2) d_TrustDeskModel_number_43 (by decide) ?_
          obtain ⟨_, b51, -⟩ := I0.1 _ _ h_o0
          have : (2 : Int32).toInt = 2 := by decide
          refine mv_callV (kc' := 0) (ks' := 0) (As := [.int 2]) (st9 := [.int 2, .ref o0]) d_TrustDeskModel_number_44 lV_TrustDeskModel_240 b51 rfl (tc_TrustDeskModel_fails_x (d := (d + 1)) (x9 := x9) (o0 := o0) (x1 := 2) h_o0 yR (by decide) I0.start) rfl (Nat.le_of_ble_eq_true rfl) (Nat.le_of_ble_eq_true rfl) (Nat.le_of_ble_eq_true rfl) (hst := rfl) (fun b45r M46 n47 b45 => ?_)
          obtain ⟨T48, J49, rfl, R52, f53⟩ := b45
          have I50 := I0.call J49 (tm_sub (by decide)) (Or.inl rfl)
          have t54 := J49.up h_o0
          have := (rv_c I0 J49 (I0.up h_o0) (k := 15) rfl)
          have := (rv_c I0 J49 (I0.up h_o0) (k := 16) rfl)
          have := (rv_c I0 J49 (I0.up h_o0) (k := 17) rfl)
          have := (rv_c I0 J49 (I0.up h_o0) (k := 22) rfl)
          have := (rv_c I0 J49 (I0.up h_o0) (k := 24) rfl)
          have := ra_call I0 J49 (I0.up h_o0) (k := 5) rfl rfl rfl 44
          have := ra_call I0 J49 (I0.up h_o0) (k := 6) rfl rfl rfl 44
          have E55 : rE M0 M46 o0 0 0 := yE0.fails (rE_hv I0 J49 (I0.up h_o0) 15 18 (by decide)) (rE_ha I0 J49 (I0.up h_o0) (by decide)) f53 0 0
          have q56 := J49.keep h_o0 (by decide) q25
          refine mv_aload_n d_TrustDeskModel_number_47 rfl rfl ?_
          obtain ⟨_, b57, -⟩ := I50.1 _ _ t54
          refine mv_callV (kc1 := 0) (ks1 := 0) (kc' := 0) (ks' := 0) (As := []) (st9 := [.ref o0]) d_TrustDeskModel_number_48 lV_TrustDeskModel_230 b57 rfl (mj_enter (by decide) (Nat.le_of_ble_eq_true rfl) ?_) rfl (Nat.le_of_ble_eq_true rfl) (Nat.le_of_ble_eq_true rfl) (Nat.le_of_ble_eq_true rfl) (hst := rfl) (fun _ _ _ h => h)
          refine mv_aload_n d_TrustDeskModel_isWell_0 rfl rfl ?_
          obtain ⟨v59, q58⟩ := tm_atI I50 t54 (k := 19) rfl
          refine tr_getK q58 d_TrustDeskModel_isWell_1 f_TrustDeskModel_224_13 ?_
          have := R52.f (k := 19) q58 rfl
          have := tm_rv q58
          refine mv_if_neZ (tgt := 11) (a := v59.toInt) d_TrustDeskModel_isWell_4 (by decide) rfl (fun b60 => ?_) (fun b60 => ?_)
          · refine mv_iconst (v := 0) d_TrustDeskModel_isWell_11 (by decide) ?_
            refine mv_iret d_TrustDeskModel_isWell_12 rfl (by decide) ?_
            refine mv_if_ne_f (tgt := 56) d_TrustDeskModel_number_51 (by decide) (by decide) ?_
            refine mv_iconst (v := 0) d_TrustDeskModel_number_54 (by decide) ?_
            exact mv_iret d_TrustDeskModel_number_55 rfl (by first | rfl | decide) ⟨_, I50, _, rfl, R52, E55.vac (by have := R52.1 15 _ _ rfl; have := R52.1 16 _ _ rfl; have := R52.1 19 _ _ rfl; have := E55.f yS; omega) 0 1, (Or.inl (by decide))⟩
          · exfalso
            have := R52.1 15 _ _ rfl; have := R52.1 16 _ _ rfl; have := R52.1 19 _ _ rfl; have := E55.f yS; omega
        · refine mv_iconst (v := 1) d_TrustDeskModel_within_13 (by decide) ?_
          refine mv_goto (tgt := 18) d_TrustDeskModel_within_14 (by decide) ?_
          refine mv_iret d_TrustDeskModel_within_18 rfl (by decide) ?_
          refine mv_if_ne_t (tgt := 47) d_TrustDeskModel_number_39 (by decide) (by decide) ?_
          refine mv_aload_n d_TrustDeskModel_number_47 rfl rfl ?_
          obtain ⟨_, b61, -⟩ := I0.1 _ _ h_o0
          refine mv_callV (kc1 := 0) (ks1 := 0) (kc' := 0) (ks' := 0) (As := []) (st9 := [.ref o0]) d_TrustDeskModel_number_48 lV_TrustDeskModel_230 b61 rfl (mj_enter (by decide) (Nat.le_of_ble_eq_true rfl) ?_) rfl (Nat.le_of_ble_eq_true rfl) (Nat.le_of_ble_eq_true rfl) (Nat.le_of_ble_eq_true rfl) (hst := rfl) (fun _ _ _ h => h)
          refine mv_aload_n d_TrustDeskModel_isWell_0 rfl rfl ?_
          refine tr_getK (k := 19) q2 d_TrustDeskModel_isWell_1 f_TrustDeskModel_224_13 ?_
          have := mz_hi v3
          refine mv_if_neZ (tgt := 11) (a := v3.toInt) d_TrustDeskModel_isWell_4 (by decide) rfl (fun b62 => absurd b62 (by omega)) (fun b62 => ?_)
          refine mv_iconst (v := 1) d_TrustDeskModel_isWell_7 (by decide) ?_
          refine mv_goto (tgt := 12) d_TrustDeskModel_isWell_8 (by decide) ?_
          refine mv_iret d_TrustDeskModel_isWell_12 rfl (by decide) ?_
          refine mv_if_ne_t (tgt := 56) d_TrustDeskModel_number_51 (by decide) (by decide) ?_
          refine mv_aload_n d_TrustDeskModel_number_56 rfl rfl ?_
          refine tr_getK (k := 18) q25 d_TrustDeskModel_number_57 f_TrustDeskModel_201_13 ?_
          refine mv_istore_n (lv' := [(3, .int v26), (0, .ref o0), (1, .int x1), (2, .int x2)]) d_TrustDeskModel_number_60 rfl (by decide) rfl ?_
          refine mv_aload_n d_TrustDeskModel_number_61 rfl rfl ?_
          obtain ⟨_, b69, -⟩ := I0.1 _ _ h_o0
          refine mv_callV (kc' := 0) (ks' := 0) (As := []) (st9 := [.ref o0]) d_TrustDeskModel_number_62 lV_TrustDeskModel_237 b69 rfl (tc_TrustDeskModel_next_x (d := d) (x9 := x9) (o0 := o0) h_o0 yR I0.start) rfl (Nat.le_of_ble_eq_true rfl) (Nat.le_of_ble_eq_true rfl) (Nat.le_of_ble_eq_true rfl) (hst := rfl) (fun b63r M64 n65 b63 => ?_)
          obtain ⟨T66, J67, rfl, R70, f71, f72⟩ := b63
          have I68 := I0.call J67 (tm_sub (by decide)) (Or.inl rfl)
          have t73 := J67.up h_o0
          have := (rv_c I0 J67 (I0.up h_o0) (k := 19) rfl)
          have := (rv_c I0 J67 (I0.up h_o0) (k := 22) rfl)
          have := (rv_c I0 J67 (I0.up h_o0) (k := 24) rfl)
          have := ra_call I0 J67 (I0.up h_o0) (k := 5) rfl rfl rfl 44
          have := ra_call I0 J67 (I0.up h_o0) (k := 6) rfl rfl rfl 44
          have h75 : rv M0 o0 16 + 1 ≤ rv M0 o0 15 := (by have := yR.1 15 _ _ rfl; have := yR.1 16 _ _ rfl; have := yR.1 19 _ _ rfl; have := yE0.f yS; omega)
          have E74 : rE M0 M64 o0 0 1 := yE0.next f71 f72 (rv_c I0 J67 (I0.up h_o0) (k := 19) rfl) (rE_ha I0 J67 (I0.up h_o0) (by decide)) (e := 1) h75 (by decide)
          have q76 := J67.keep h_o0 (by decide) q2
          refine mv_iload_n d_TrustDeskModel_number_65 rfl rfl ?_
          exact mv_iret d_TrustDeskModel_number_66 rfl (by first | rfl | decide) ⟨_, I68, _, rfl, R70, E74, (Or.inr (by have := R70.1 15 _ _ rfl; have := R70.1 16 _ _ rfl; have := R70.1 19 _ _ rfl; have := E74.f yS; omega))⟩
  · refine mv_iconst (v := 1) d_TrustDeskModel_isWell_7 (by decide) ?_
    refine mv_goto (tgt := 12) d_TrustDeskModel_isWell_8 (by decide) ?_
    refine mv_iret d_TrustDeskModel_isWell_12 rfl (by decide) ?_
    refine mv_if_eq_f (tgt := 20) d_TrustDeskModel_number_4 (by decide) (by decide) ?_
    refine mv_aload_n d_TrustDeskModel_number_7 rfl rfl ?_
    obtain ⟨v78, q77⟩ := tm_atI I0 h_o0 (k := 17) rfl
    refine tr_getK q77 d_TrustDeskModel_number_8 f_TrustDeskModel_198_13 ?_
    have := tm_rv q77
    refine mv_iconst (v := 2) d_TrustDeskModel_number_11 (by decide) ?_
    have := mz_hi v78
    refine mv_icmp_eqZ (tgt := 20) (a := v78.toInt) (b := 2) d_TrustDeskModel_number_12 (by decide) rfl (by decide) (fun b79 => ?_) (fun b79 => ?_)
    · refine mv_aload_n d_TrustDeskModel_number_20 rfl rfl ?_
      obtain ⟨_, b80, -⟩ := I0.1 _ _ h_o0
      refine mv_callV (kc1 := 0) (ks1 := 0) (kc' := 0) (ks' := 0) (As := []) (st9 := [.ref o0]) d_TrustDeskModel_number_21 lV_TrustDeskModel_230 b80 rfl (mj_enter (by decide) (Nat.le_of_ble_eq_true rfl) ?_) rfl (Nat.le_of_ble_eq_true rfl) (Nat.le_of_ble_eq_true rfl) (Nat.le_of_ble_eq_true rfl) (hst := rfl) (fun _ _ _ h => h)
      refine mv_aload_n d_TrustDeskModel_isWell_0 rfl rfl ?_
      refine tr_getK (k := 19) q2 d_TrustDeskModel_isWell_1 f_TrustDeskModel_224_13 ?_
      have := mz_hi v3
      refine mv_if_neZ (tgt := 11) (a := v3.toInt) d_TrustDeskModel_isWell_4 (by decide) rfl (fun b81 => absurd b81 (by omega)) (fun b81 => ?_)
      refine mv_iconst (v := 1) d_TrustDeskModel_isWell_7 (by decide) ?_
      refine mv_goto (tgt := 12) d_TrustDeskModel_isWell_8 (by decide) ?_
      refine mv_iret d_TrustDeskModel_isWell_12 rfl (by decide) ?_
      refine mv_if_eq_f (tgt := 47) d_TrustDeskModel_number_24 (by decide) (by decide) ?_
      refine mv_aload_n d_TrustDeskModel_number_27 rfl rfl ?_
      obtain ⟨v83, q82⟩ := tm_atI I0 h_o0 (k := 18) rfl
      refine tr_getK q82 d_TrustDeskModel_number_28 f_TrustDeskModel_201_13 ?_
      have := yR.f (k := 18) q82 rfl
      have := tm_rv q82
      refine mv_i2l (v := v83.toInt64) d_TrustDeskModel_number_31 rfl ?_
      refine mv_iload_n d_TrustDeskModel_number_32 rfl rfl ?_
      refine mv_i2l (v := x1.toInt64) d_TrustDeskModel_number_33 rfl ?_
      refine mv_iload_n d_TrustDeskModel_number_34 rfl rfl ?_
      refine mv_i2l (v := x2.toInt64) d_TrustDeskModel_number_35 rfl ?_
      refine mv_callS (kc1 := 0) (ks1 := 0) (kc' := 0) (ks' := 0) (As := [.long v83.toInt64, .long x1.toInt64, .long x2.toInt64]) (st9 := [.long x2.toInt64, .long x1.toInt64, .long v83.toInt64]) d_TrustDeskModel_number_36 lS_TrustDeskModel_169 (mj_enter (by decide) (Nat.le_of_ble_eq_true rfl) ?_) rfl (Nat.le_of_ble_eq_true rfl) (Nat.le_of_ble_eq_true rfl) (Nat.le_of_ble_eq_true rfl) (hst := rfl) (fun _ _ _ h => h)
      refine mv_lload_n d_TrustDeskModel_within_0 rfl rfl ?_
      refine mv_lload_n d_TrustDeskModel_within_1 rfl rfl ?_
      refine mv_lltZ (tgt := 17) (a := v83.toInt) (b := x1.toInt) d_TrustDeskModel_within_2 d_TrustDeskModel_within_3 (by decide) (mz_wide _) (mz_wide _) (fun b84 => ?_) (fun b84 => ?_)
      · refine mv_iconst (v := 0) d_TrustDeskModel_within_17 (by decide) ?_
        refine mv_iret d_TrustDeskModel_within_18 rfl (by decide) ?_
        refine mv_if_ne_f (tgt := 47) d_TrustDeskModel_number_39 (by decide) (by decide) ?_
        refine mv_aload_n d_TrustDeskModel_number_42 rfl rfl ?_
        refine mv_iconst (v := 2) d_TrustDeskModel_number_43 (by decide) ?_
        obtain ⟨_, b91, -⟩ := I0.1 _ _ h_o0
        have : (2 : Int32).toInt = 2 := by decide
        refine mv_callV (kc' := 0) (ks' := 0) (As := [.int 2]) (st9 := [.int 2, .ref o0]) d_TrustDeskModel_number_44 lV_TrustDeskModel_240 b91 rfl (tc_TrustDeskModel_fails_x (d := (d + 1)) (x9 := x9) (o0 := o0) (x1 := 2) h_o0 yR (by decide) I0.start) rfl (Nat.le_of_ble_eq_true rfl) (Nat.le_of_ble_eq_true rfl) (Nat.le_of_ble_eq_true rfl) (hst := rfl) (fun b85r M86 n87 b85 => ?_)
        obtain ⟨T88, J89, rfl, R92, f93⟩ := b85
        have I90 := I0.call J89 (tm_sub (by decide)) (Or.inl rfl)
        have t94 := J89.up h_o0
        have := (rv_c I0 J89 (I0.up h_o0) (k := 15) rfl)
        have := (rv_c I0 J89 (I0.up h_o0) (k := 16) rfl)
        have := (rv_c I0 J89 (I0.up h_o0) (k := 17) rfl)
        have := (rv_c I0 J89 (I0.up h_o0) (k := 22) rfl)
        have := (rv_c I0 J89 (I0.up h_o0) (k := 24) rfl)
        have := ra_call I0 J89 (I0.up h_o0) (k := 5) rfl rfl rfl 44
        have := ra_call I0 J89 (I0.up h_o0) (k := 6) rfl rfl rfl 44
        have E95 : rE M0 M86 o0 0 0 := yE0.fails (rE_hv I0 J89 (I0.up h_o0) 15 18 (by decide)) (rE_ha I0 J89 (I0.up h_o0) (by decide)) f93 0 0
        have q96 := J89.keep h_o0 (by decide) q77
        have q97 := J89.keep h_o0 (by decide) q82
        refine mv_aload_n d_TrustDeskModel_number_47 rfl rfl ?_
        obtain ⟨_, b98, -⟩ := I90.1 _ _ t94
        refine mv_callV (kc1 := 0) (ks1 := 0) (kc' := 0) (ks' := 0) (As := []) (st9 := [.ref o0]) d_TrustDeskModel_number_48 lV_TrustDeskModel_230 b98 rfl (mj_enter (by decide) (Nat.le_of_ble_eq_true rfl) ?_) rfl (Nat.le_of_ble_eq_true rfl) (Nat.le_of_ble_eq_true rfl) (Nat.le_of_ble_eq_true rfl) (hst := rfl) (fun _ _ _ h => h)
        refine mv_aload_n d_TrustDeskModel_isWell_0 rfl rfl ?_
        obtain ⟨v100, q99⟩ := tm_atI I90 t94 (k := 19) rfl
        refine tr_getK q99 d_TrustDeskModel_isWell_1 f_TrustDeskModel_224_13 ?_
        have := R92.f (k := 19) q99 rfl
        have := tm_rv q99
        refine mv_if_neZ (tgt := 11) (a := v100.toInt) d_TrustDeskModel_isWell_4 (by decide) rfl (fun b101 => ?_) (fun b101 => ?_)
        · refine mv_iconst (v := 0) d_TrustDeskModel_isWell_11 (by decide) ?_
          refine mv_iret d_TrustDeskModel_isWell_12 rfl (by decide) ?_
          refine mv_if_ne_f (tgt := 56) d_TrustDeskModel_number_51 (by decide) (by decide) ?_
          refine mv_iconst (v := 0) d_TrustDeskModel_number_54 (by decide) ?_
          exact mv_iret d_TrustDeskModel_number_55 rfl (by first | rfl | decide) ⟨_, I90, _, rfl, R92, E95.vac (by have := R92.1 15 _ _ rfl; have := R92.1 16 _ _ rfl; have := R92.1 19 _ _ rfl; have := E95.f yS; omega) 0 1, (Or.inl (by decide))⟩
        · exfalso
          have := R92.1 15 _ _ rfl; have := R92.1 16 _ _ rfl; have := R92.1 19 _ _ rfl; have := E95.f yS; omega
      · refine mv_lload_n d_TrustDeskModel_within_6 rfl rfl ?_
        refine mv_lload d_TrustDeskModel_within_7 rfl ?_
        refine mv_lgtZ (tgt := 17) (a := v83.toInt) (b := x2.toInt) d_TrustDeskModel_within_9 d_TrustDeskModel_within_10 (by decide) (mz_wide _) (mz_wide _) (fun b102 => ?_) (fun b102 => ?_)
        · refine mv_iconst (v := 0) d_TrustDeskModel_within_17 (by decide) ?_
          refine mv_iret d_TrustDeskModel_within_18 rfl (by decide) ?_
          refine mv_if_ne_f (tgt := 47) d_TrustDeskModel_number_39 (by decide) (by decide) ?_
          refine mv_aload_n d_TrustDeskModel_number_42 rfl rfl ?_
          refine mv_iconst (v := 2) d_TrustDeskModel_number_43 (by decide) ?_
          obtain ⟨_, b109, -⟩ := I0.1 _ _ h_o0
          have : (2 : Int32).toInt = 2 := by decide
          refine mv_callV (kc' := 0) (ks' := 0) (As := [.int 2]) (st9 := [.int 2, .ref o0]) d_TrustDeskModel_number_44 lV_TrustDeskModel_240 b109 rfl (tc_TrustDeskModel_fails_x (d := (d + 1)) (x9 := x9) (o0 := o0) (x1 := 2) h_o0 yR (by decide) I0.start) rfl (Nat.le_of_ble_eq_true rfl) (Nat.le_of_ble_eq_true rfl) (Nat.le_of_ble_eq_true rfl) (hst := rfl) (fun b103r M104 n105 b103 => ?_)
          obtain ⟨T106, J107, rfl, R110, f111⟩ := b103
          have I108 := I0.call J107 (tm_sub (by decide)) (Or.inl rfl)
          have t112 := J107.up h_o0
          have := (rv_c I0 J107 (I0.up h_o0) (k := 15) rfl)
          have := (rv_c I0 J107 (I0.up h_o0) (k := 16) rfl)
          have := (rv_c I0 J107 (I0.up h_o0) (k := 17) rfl)
          have := (rv_c I0 J107 (I0.up h_o0) (k := 22) rfl)
          have := (rv_c I0 J107 (I0.up h_o0) (k := 24) rfl)
          have := ra_call I0 J107 (I0.up h_o0) (k := 5) rfl rfl rfl 44
          have := ra_call I0 J107 (I0.up h_o0) (k := 6) rfl rfl rfl 44
          have E113 : rE M0 M104 o0 0 0 := yE0.fails (rE_hv I0 J107 (I0.up h_o0) 15 18 (by decide)) (rE_ha I0 J107 (I0.up h_o0) (by decide)) f111 0 0
          have q114 := J107.keep h_o0 (by decide) q77
          have q115 := J107.keep h_o0 (by decide) q82
          refine mv_aload_n d_TrustDeskModel_number_47 rfl rfl ?_
          obtain ⟨_, b116, -⟩ := I108.1 _ _ t112
          refine mv_callV (kc1 := 0) (ks1 := 0) (kc' := 0) (ks' := 0) (As := []) (st9 := [.ref o0]) d_TrustDeskModel_number_48 lV_TrustDeskModel_230 b116 rfl (mj_enter (by decide) (Nat.le_of_ble_eq_true rfl) ?_) rfl (Nat.le_of_ble_eq_true rfl) (Nat.le_of_ble_eq_true rfl) (Nat.le_of_ble_eq_true rfl) (hst := rfl) (fun _ _ _ h => h)
          refine mv_aload_n d_TrustDeskModel_isWell_0 rfl rfl ?_
          obtain ⟨v118, q117⟩ := tm_atI I108 t112 (k := 19) rfl
          refine tr_getK q117 d_TrustDeskModel_isWell_1 f_TrustDeskModel_224_13 ?_
          have := R110.f (k := 19) q117 rfl
          have := tm_rv q117
          refine mv_if_neZ (tgt := 11) (a := v118.toInt) d_TrustDeskModel_isWell_4 (by decide) rfl (fun b119 => ?_) (fun b119 => ?_)
          · refine mv_iconst (v := 0) d_TrustDeskModel_isWell_11 (by decide) ?_
            refine mv_iret d_TrustDeskModel_isWell_12 rfl (by decide) ?_
            refine mv_if_ne_f (tgt := 56) d_TrustDeskModel_number_51 (by decide) (by decide) ?_
            refine mv_iconst (v := 0) d_TrustDeskModel_number_54 (by decide) ?_
            exact mv_iret d_TrustDeskModel_number_55 rfl (by first | rfl | decide) ⟨_, I108, _, rfl, R110, E113.vac (by have := R110.1 15 _ _ rfl; have := R110.1 16 _ _ rfl; have := R110.1 19 _ _ rfl; have := E113.f yS; omega) 0 1, (Or.inl (by decide))⟩
          · exfalso
            have := R110.1 15 _ _ rfl; have := R110.1 16 _ _ rfl; have := R110.1 19 _ _ rfl; have := E113.f yS; omega
        · refine mv_iconst (v := 1) d_TrustDeskModel_within_13 (by decide) ?_
          refine mv_goto (tgt := 18) d_TrustDeskModel_within_14 (by decide) ?_
          refine mv_iret d_TrustDeskModel_within_18 rfl (by decide) ?_
          refine mv_if_ne_t (tgt := 47) d_TrustDeskModel_number_39 (by decide) (by decide) ?_
          refine mv_aload_n d_TrustDeskModel_number_47 rfl rfl ?_
          obtain ⟨_, b120, -⟩ := I0.1 _ _ h_o0
          refine mv_callV (kc1 := 0) (ks1 := 0) (kc' := 0) (ks' := 0) (As := []) (st9 := [.ref o0]) d_TrustDeskModel_number_48 lV_TrustDeskModel_230 b120 rfl (mj_enter (by decide) (Nat.le_of_ble_eq_true rfl) ?_) rfl (Nat.le_of_ble_eq_true rfl) (Nat.le_of_ble_eq_true rfl) (Nat.le_of_ble_eq_true rfl) (hst := rfl) (fun _ _ _ h => h)
          refine mv_aload_n d_TrustDeskModel_isWell_0 rfl rfl ?_
          refine tr_getK (k := 19) q2 d_TrustDeskModel_isWell_1 f_TrustDeskModel_224_13 ?_
          have := mz_hi v3
          refine mv_if_neZ (tgt := 11) (a := v3.toInt) d_TrustDeskModel_isWell_4 (by decide) rfl (fun b121 => absurd b121 (by omega)) (fun b121 => ?_)
          refine mv_iconst (v := 1) d_TrustDeskModel_isWell_7 (by decide) ?_
          refine mv_goto (tgt := 12) d_TrustDeskModel_isWell_8 (by decide) ?_
          refine mv_iret d_TrustDeskModel_isWell_12 rfl (by decide) ?_
          refine mv_if_ne_t (tgt := 56) d_TrustDeskModel_number_51 (by decide) (by decide) ?_
          refine mv_aload_n d_TrustDeskModel_number_56 rfl rfl ?_
          refine tr_getK (k := 18) q82 d_TrustDeskModel_number_57 f_TrustDeskModel_201_13 ?_
          refine mv_istore_n (lv' := [(3, .int v83), (0, .ref o0), (1, .int x1), (2, .int x2)]) d_TrustDeskModel_number_60 rfl (by decide) rfl ?_
          refine mv_aload_n d_TrustDeskModel_number_61 rfl rfl ?_
          obtain ⟨_, b128, -⟩ := I0.1 _ _ h_o0
          refine mv_callV (kc' := 0) (ks' := 0) (As := []) (st9 := [.ref o0]) d_TrustDeskModel_number_62 lV_TrustDeskModel_237 b128 rfl (tc_TrustDeskModel_next_x (d := d) (x9 := x9) (o0 := o0) h_o0 yR I0.start) rfl (Nat.le_of_ble_eq_true rfl) (Nat.le_of_ble_eq_true rfl) (Nat.le_of_ble_eq_true rfl) (hst := rfl) (fun b122r M123 n124 b122 => ?_)
          obtain ⟨T125, J126, rfl, R129, f130, f131⟩ := b122
          have I127 := I0.call J126 (tm_sub (by decide)) (Or.inl rfl)
          have t132 := J126.up h_o0
          have := (rv_c I0 J126 (I0.up h_o0) (k := 19) rfl)
          have := (rv_c I0 J126 (I0.up h_o0) (k := 22) rfl)
          have := (rv_c I0 J126 (I0.up h_o0) (k := 24) rfl)
          have := ra_call I0 J126 (I0.up h_o0) (k := 5) rfl rfl rfl 44
          have := ra_call I0 J126 (I0.up h_o0) (k := 6) rfl rfl rfl 44
          have h134 : rv M0 o0 16 + 1 ≤ rv M0 o0 15 := (by have := yR.1 15 _ _ rfl; have := yR.1 16 _ _ rfl; have := yR.1 19 _ _ rfl; have := yE0.f yS; omega)
          have E133 : rE M0 M123 o0 0 1 := yE0.next f130 f131 (rv_c I0 J126 (I0.up h_o0) (k := 19) rfl) (rE_ha I0 J126 (I0.up h_o0) (by decide)) (e := 1) h134 (by decide)
          have q135 := J126.keep h_o0 (by decide) q2
          refine mv_iload_n d_TrustDeskModel_number_65 rfl rfl ?_
          exact mv_iret d_TrustDeskModel_number_66 rfl (by first | rfl | decide) ⟨_, I127, _, rfl, R129, E133, (Or.inr (by have := R129.1 15 _ _ rfl; have := R129.1 16 _ _ rfl; have := R129.1 19 _ _ rfl; have := E133.f yS; omega))⟩
    · refine mv_aload_n d_TrustDeskModel_number_15 rfl rfl ?_
      refine mv_iconst (v := 1) d_TrustDeskModel_number_16 (by decide) ?_
      obtain ⟨_, b142, -⟩ := I0.1 _ _ h_o0
      have : (1 : Int32).toInt = 1 := by decide
      refine mv_callV (kc' := 0) (ks' := 0) (As := [.int 1]) (st9 := [.int 1, .ref o0]) d_TrustDeskModel_number_17 lV_TrustDeskModel_240 b142 rfl (tc_TrustDeskModel_fails_x (d := (d + 1)) (x9 := x9) (o0 := o0) (x1 := 1) h_o0 yR (by decide) I0.start) rfl (Nat.le_of_ble_eq_true rfl) (Nat.le_of_ble_eq_true rfl) (Nat.le_of_ble_eq_true rfl) (hst := rfl) (fun b136r M137 n138 b136 => ?_)
      obtain ⟨T139, J140, rfl, R143, f144⟩ := b136
      have I141 := I0.call J140 (tm_sub (by decide)) (Or.inl rfl)
      have t145 := J140.up h_o0
      have := (rv_c I0 J140 (I0.up h_o0) (k := 15) rfl)
      have := (rv_c I0 J140 (I0.up h_o0) (k := 16) rfl)
      have := (rv_c I0 J140 (I0.up h_o0) (k := 17) rfl)
      have := (rv_c I0 J140 (I0.up h_o0) (k := 22) rfl)
      have := (rv_c I0 J140 (I0.up h_o0) (k := 24) rfl)
      have := ra_call I0 J140 (I0.up h_o0) (k := 5) rfl rfl rfl 44
      have := ra_call I0 J140 (I0.up h_o0) (k := 6) rfl rfl rfl 44
      have E146 : rE M0 M137 o0 0 0 := yE0.fails (rE_hv I0 J140 (I0.up h_o0) 15 18 (by decide)) (rE_ha I0 J140 (I0.up h_o0) (by decide)) f144 0 0
      have q147 := J140.keep h_o0 (by decide) q77
      refine mv_aload_n d_TrustDeskModel_number_20 rfl rfl ?_
      obtain ⟨_, b148, -⟩ := I141.1 _ _ t145
      refine mv_callV (kc1 := 0) (ks1 := 0) (kc' := 0) (ks' := 0) (As := []) (st9 := [.ref o0]) d_TrustDeskModel_number_21 lV_TrustDeskModel_230 b148 rfl (mj_enter (by decide) (Nat.le_of_ble_eq_true rfl) ?_) rfl (Nat.le_of_ble_eq_true rfl) (Nat.le_of_ble_eq_true rfl) (Nat.le_of_ble_eq_true rfl) (hst := rfl) (fun _ _ _ h => h)
      refine mv_aload_n d_TrustDeskModel_isWell_0 rfl rfl ?_
      obtain ⟨v150, q149⟩ := tm_atI I141 t145 (k := 19) rfl
      refine tr_getK q149 d_TrustDeskModel_isWell_1 f_TrustDeskModel_224_13 ?_
      have := R143.f (k := 19) q149 rfl
      have := tm_rv q149
      refine mv_if_neZ (tgt := 11) (a := v150.toInt) d_TrustDeskModel_isWell_4 (by decide) rfl (fun b151 => ?_) (fun b151 => ?_)
      · refine mv_iconst (v := 0) d_TrustDeskModel_isWell_11 (by decide) ?_
        refine mv_iret d_TrustDeskModel_isWell_12 rfl (by decide) ?_
        refine mv_if_eq_t (tgt := 47) d_TrustDeskModel_number_24 (by decide) (by decide) ?_
        refine mv_aload_n d_TrustDeskModel_number_47 rfl rfl ?_
        obtain ⟨_, b152, -⟩ := I141.1 _ _ t145
        refine mv_callV (kc1 := 0) (ks1 := 0) (kc' := 0) (ks' := 0) (As := []) (st9 := [.ref o0]) d_TrustDeskModel_number_48 lV_TrustDeskModel_230 b152 rfl (mj_enter (by decide) (Nat.le_of_ble_eq_true rfl) ?_) rfl (Nat.le_of_ble_eq_true rfl) (Nat.le_of_ble_eq_true rfl) (Nat.le_of_ble_eq_true rfl) (hst := rfl) (fun _ _ _ h => h)
        refine mv_aload_n d_TrustDeskModel_isWell_0 rfl rfl ?_
        refine tr_getK (k := 19) q149 d_TrustDeskModel_isWell_1 f_TrustDeskModel_224_13 ?_
        refine mv_if_neZ (tgt := 11) (a := v150.toInt) d_TrustDeskModel_isWell_4 (by decide) rfl (fun b153 => ?_) (fun b153 => ?_)
        · refine mv_iconst (v := 0) d_TrustDeskModel_isWell_11 (by decide) ?_
          refine mv_iret d_TrustDeskModel_isWell_12 rfl (by decide) ?_
          refine mv_if_ne_f (tgt := 56) d_TrustDeskModel_number_51 (by decide) (by decide) ?_
          refine mv_iconst (v := 0) d_TrustDeskModel_number_54 (by decide) ?_
          exact mv_iret d_TrustDeskModel_number_55 rfl (by first | rfl | decide) ⟨_, I141, _, rfl, R143, E146.vac (by have := R143.1 15 _ _ rfl; have := R143.1 16 _ _ rfl; have := R143.1 19 _ _ rfl; have := E146.f yS; omega) 0 1, (Or.inl (by decide))⟩
        · exfalso
          have := R143.1 15 _ _ rfl; have := R143.1 16 _ _ rfl; have := R143.1 19 _ _ rfl; have := E146.f yS; omega
      · exfalso
        have := R143.1 15 _ _ rfl; have := R143.1 16 _ _ rfl; have := R143.1 19 _ _ rfl; have := E146.f yS; omega
abbrev kY_TrustDeskModel_begin : mj_Y := (⟨"TrustDeskModel", "begin", "(I)I"⟩, prog_14_method_34_code, 3, (Option.some Jvm.ClassFile.FieldType.int))
theorem d_TrustDeskModel_begin_0 : decode kY_TrustDeskModel_begin.2.1 0 = .ok (.sipush 880, 3) := by decide +kernel
theorem d_TrustDeskModel_begin_3 : decode kY_TrustDeskModel_begin.2.1 3 = .ok (.aload_n 0, 1) := by decide +kernel
theorem d_TrustDeskModel_begin_4 : decode kY_TrustDeskModel_begin.2.1 4 = .ok (.getfield 23, 3) := by decide +kernel
theorem f_TrustDeskModel_23_13 : mj_fl "TrustDeskModel" 23 13 6 := ⟨kR_TrustDeskModel, kF_TrustDeskModel, 72, "TrustDeskModel", rfl, kg_13, by decide, (mj_in1 (List.mem_of_getElem? (i := 1392) (by decide +kernel)) rfl), Or.inl rfl⟩
theorem d_TrustDeskModel_begin_7 : decode kY_TrustDeskModel_begin.2.1 7 = .ok (.bipush 44, 2) := by decide +kernel
theorem d_TrustDeskModel_begin_9 : decode kY_TrustDeskModel_begin.2.1 9 = .ok (.iaload, 1) := by decide +kernel
theorem d_TrustDeskModel_begin_10 : decode kY_TrustDeskModel_begin.2.1 10 = .ok (.iadd, 1) := by decide +kernel
theorem d_TrustDeskModel_begin_11 : decode kY_TrustDeskModel_begin.2.1 11 = .ok (.istore_n 2, 1) := by decide +kernel
theorem d_TrustDeskModel_begin_12 : decode kY_TrustDeskModel_begin.2.1 12 = .ok (.aload_n 0, 1) := by decide +kernel
theorem d_TrustDeskModel_begin_13 : decode kY_TrustDeskModel_begin.2.1 13 = .ok (.getfield 23, 3) := by decide +kernel
theorem d_TrustDeskModel_begin_16 : decode kY_TrustDeskModel_begin.2.1 16 = .ok (.bipush 44, 2) := by decide +kernel
theorem d_TrustDeskModel_begin_18 : decode kY_TrustDeskModel_begin.2.1 18 = .ok (.dup2, 1) := by decide +kernel
theorem d_TrustDeskModel_begin_19 : decode kY_TrustDeskModel_begin.2.1 19 = .ok (.iaload, 1) := by decide +kernel
theorem d_TrustDeskModel_begin_20 : decode kY_TrustDeskModel_begin.2.1 20 = .ok (.iconst 1, 1) := by decide +kernel
theorem d_TrustDeskModel_begin_21 : decode kY_TrustDeskModel_begin.2.1 21 = .ok (.iadd, 1) := by decide +kernel
theorem d_TrustDeskModel_begin_22 : decode kY_TrustDeskModel_begin.2.1 22 = .ok (.iastore, 1) := by decide +kernel
theorem d_TrustDeskModel_begin_23 : decode kY_TrustDeskModel_begin.2.1 23 = .ok (.aload_n 0, 1) := by decide +kernel
theorem d_TrustDeskModel_begin_24 : decode kY_TrustDeskModel_begin.2.1 24 = .ok (.getfield 26, 3) := by decide +kernel
theorem f_TrustDeskModel_26_13 : mj_fl "TrustDeskModel" 26 13 7 := ⟨kR_TrustDeskModel, kF_TrustDeskModel, 72, "TrustDeskModel", rfl, kg_13, by decide, (mj_in1 (List.mem_of_getElem? (i := 1393) (by decide +kernel)) rfl), Or.inl rfl⟩
theorem d_TrustDeskModel_begin_27 : decode kY_TrustDeskModel_begin.2.1 27 = .ok (.iload_n 2, 1) := by decide +kernel
theorem d_TrustDeskModel_begin_28 : decode kY_TrustDeskModel_begin.2.1 28 = .ok (.iload_n 1, 1) := by decide +kernel
theorem d_TrustDeskModel_begin_29 : decode kY_TrustDeskModel_begin.2.1 29 = .ok (.iastore, 1) := by decide +kernel
theorem d_TrustDeskModel_begin_30 : decode kY_TrustDeskModel_begin.2.1 30 = .ok (.aload_n 0, 1) := by decide +kernel
theorem d_TrustDeskModel_begin_31 : decode kY_TrustDeskModel_begin.2.1 31 = .ok (.getfield 35, 3) := by decide +kernel
theorem f_TrustDeskModel_35_13 : mj_fl "TrustDeskModel" 35 13 10 := ⟨kR_TrustDeskModel, kF_TrustDeskModel, 72, "TrustDeskModel", rfl, kg_13, by decide, (mj_in1 (List.mem_of_getElem? (i := 1396) (by decide +kernel)) rfl), Or.inl rfl⟩
theorem d_TrustDeskModel_begin_34 : decode kY_TrustDeskModel_begin.2.1 34 = .ok (.iload_n 2, 1) := by decide +kernel
theorem d_TrustDeskModel_begin_35 : decode kY_TrustDeskModel_begin.2.1 35 = .ok (.aload_n 0, 1) := by decide +kernel
theorem d_TrustDeskModel_begin_36 : decode kY_TrustDeskModel_begin.2.1 36 = .ok (.getfield 20, 3) := by decide +kernel
theorem d_TrustDeskModel_begin_39 : decode kY_TrustDeskModel_begin.2.1 39 = .ok (.bipush 44, 2) := by decide +kernel
theorem d_TrustDeskModel_begin_41 : decode kY_TrustDeskModel_begin.2.1 41 = .ok (.iaload, 1) := by decide +kernel
theorem d_TrustDeskModel_begin_42 : decode kY_TrustDeskModel_begin.2.1 42 = .ok (.iastore, 1) := by decide +kernel
theorem d_TrustDeskModel_begin_43 : decode kY_TrustDeskModel_begin.2.1 43 = .ok (.aload_n 0, 1) := by decide +kernel
theorem d_TrustDeskModel_begin_44 : decode kY_TrustDeskModel_begin.2.1 44 = .ok (.invokevirtual 237, 3) := by decide +kernel
theorem d_TrustDeskModel_begin_47 : decode kY_TrustDeskModel_begin.2.1 47 = .ok (.iload_n 2, 1) := by decide +kernel
theorem d_TrustDeskModel_begin_48 : decode kY_TrustDeskModel_begin.2.1 48 = .ok (.ireturn, 1) := by decide +kernel
def w_TrustDeskModel_begin_x : List Nat := [1315, 1316, 1317, 1318, 20006, 20007, 20010]
theorem tc_TrustDeskModel_begin_x {g : mj_G} {l : Launch} {d : Nat} {T0 : tm_H} {M0 : mj_M} {n0 x9 : Nat} {o0 : Nat} {x1 : Int32} (h_o0 : T0 o0 = some (0, 13, 0)) (yR : rI M0 o0) (yT : rT M0 o0) (yS : rv M0 o0 19 = 0 → ra M0 o0 5 44 ≤ rv M0 o0 16) (yw : rv M0 o0 19 = 0) (yo : rv M0 o0 17 ≠ 0) (ym : ra M0 o0 6 44 ≤ 19) (I0 : tm_I tm_FT (tm_in w_TrustDeskModel_begin_x) x9 T0 M0 n0 T0 M0 n0) : mj_Met g l kY_TrustDeskModel_begin (d + 2) [.ref o0, .int x1] M0 n0 0 0 (tm_Q tm_FT (tm_in w_TrustDeskModel_begin_x) x9 T0 M0 n0 (fun r _ M => ∃ v : Int32, r = some (.int v) ∧ rI M o0 ∧ (rE M0 M o0 0 1) ∧ (v.toInt = 880 + ra M0 o0 6 44) ∧ (ra M o0 6 44 = ra M0 o0 6 44 + 1) ∧ (ra M o0 7 (880 + ra M0 o0 6 44).toNat = x1.toInt) ∧ (ra M o0 10 (880 + ra M0 o0 6 44).toNat = ra M0 o0 5 44) ∧ (rK M0 M o0 (880 + ra M0 o0 6 44).toNat))) := by
  refine mj_enter (by decide) (Nat.le_of_ble_eq_true rfl) ?_
  have yE0 := rE.rf yT
  have K1 : rK M0 M0 o0 ((880 + ra M0 o0 6 44).toNat) := rK.rf
  refine mv_sipush (v := 880) d_TrustDeskModel_begin_0 (by decide) ?_
  refine mv_aload_n d_TrustDeskModel_begin_3 rfl rfl ?_
  obtain ⟨a3, q2, t_a3⟩ := tm_atR I0 h_o0 (k := 6) rfl
  refine tr_getK q2 d_TrustDeskModel_begin_4 f_TrustDeskModel_23_13 ?_
  refine mv_bipush (v := 44) d_TrustDeskModel_begin_7 (by decide) ?_
  refine tr_ialdR (o := o0) (k := 6) I0 q2 t_a3 (by decide) d_TrustDeskModel_begin_9 (by unfold vp_in; decide) (fun v4 e5 => ?_)
  have := yR.a (k := 6) rfl (44 : Int32).toNatClampNeg
  have : v4.toInt = ra M0 o0 6 44 := e5
  refine mv_iadd d_TrustDeskModel_begin_10 ?_
  refine mv_istore_n (lv' := [(2, .int (880 + v4)), (0, .ref o0), (1, .int x1)]) d_TrustDeskModel_begin_11 rfl (by decide) rfl ?_
  refine mv_aload_n d_TrustDeskModel_begin_12 rfl rfl ?_
  refine tr_getK (k := 6) q2 d_TrustDeskModel_begin_13 f_TrustDeskModel_23_13 ?_
  refine mv_bipush (v := 44) d_TrustDeskModel_begin_16 (by decide) ?_
  refine mv_dup2_11 d_TrustDeskModel_begin_18 rfl rfl ?_
  refine tr_ialdR (o := o0) (k := 6) I0 q2 t_a3 (by decide) d_TrustDeskModel_begin_19 (by unfold vp_in; decide) (fun v6 e7 => ?_)
  have := yR.a (k := 6) rfl (44 : Int32).toNatClampNeg
  have : v6.toInt = ra M0 o0 6 44 := e7
  refine mv_iconst (v := 1) d_TrustDeskModel_begin_20 (by decide) ?_
  refine mv_iadd d_TrustDeskModel_begin_21 ?_
  have b8 : (v6 + 1 : Int32).toInt = (v6.toInt + 1) := mz_add2 rfl (by decide) (by have := yR.1 15 _ _ rfl; have := yR.1 16 _ _ rfl; have := yR.1 19 _ _ rfl; have := yE0.f yS; omega) (by have := yR.1 15 _ _ rfl; have := yR.1 16 _ _ rfl; have := yR.1 19 _ _ rfl; have := yE0.f yS; omega)
  refine tr_iastR (k := 6) I0 yR (I0.up h_o0) q2 t_a3 (by decide) (by decide) (fun lo hi h => by cases h; have := yR.1 15 _ _ rfl; have := yR.1 16 _ _ rfl; have := yR.1 19 _ _ rfl; have := yE0.f yS; exact ⟨by show (0 : Int) ≤ (v6 + 1).toInt; omega, by show (v6 + 1).toInt ≤ (20 : Int); omega⟩) (Or.inl (by decide)) d_TrustDeskModel_begin_22 (by unfold vp_in; decide) (fun M9 I10 K11 R12 E13 A14 V15 => ?_)
  have := V15 15
  have := V15 16
  have := V15 17
  have := V15 19
  have := V15 22
  have := V15 24
  have := A14 5 (by decide) rfl 44
  have : ra M9 o0 6 44 = (v6 + 1).toInt := (E13 44).trans (if_pos (by decide))
  have E16 : rE M0 M9 o0 0 0 := yE0.same (fun k _ _ => V15 k) (fun k h1 h2 => A14 k (by omega) (by rcases (show k = 4 ∨ k = 5 by omega) with rfl | rfl <;> rfl))
  have K17 : rK M0 M9 o0 ((880 + ra M0 o0 6 44).toNat) := K1.same (sA_a A14 (by decide))
  refine mv_aload_n d_TrustDeskModel_begin_23 rfl rfl ?_
  obtain ⟨a19, q18, t_a19⟩ := tm_atR I10 h_o0 (k := 7) rfl
  refine tr_getK q18 d_TrustDeskModel_begin_24 f_TrustDeskModel_26_13 ?_
  refine mv_iload_n d_TrustDeskModel_begin_27 rfl rfl ?_
  refine mv_iload_n d_TrustDeskModel_begin_28 rfl rfl ?_
  have b20 : (880 + v4 : Int32).toInt = (880 + v4.toInt) := mz_add2 (by decide) rfl (by have := R12.1 15 _ _ rfl; have := R12.1 16 _ _ rfl; have := R12.1 19 _ _ rfl; have := E16.f yS; omega) (by have := R12.1 15 _ _ rfl; have := R12.1 16 _ _ rfl; have := R12.1 19 _ _ rfl; have := E16.f yS; omega)
  refine tr_iastR (k := 7) I10 R12 (I10.up h_o0) q18 t_a19 (by decide) (by decide) (fun lo hi h => by cases h) (Or.inl (by decide)) d_TrustDeskModel_begin_29 (vp_in_iff.mpr (by have := R12.1 15 _ _ rfl; have := R12.1 16 _ _ rfl; have := R12.1 19 _ _ rfl; have := E16.f yS; omega)) (fun M21 I22 K23 R24 E25 A26 V27 => ?_)
  have := V27 15
  have := V27 16
  have := V27 17
  have := V27 19
  have := V27 22
  have := V27 24
  have := A26 5 (by decide) rfl 44
  have := A26 6 (by decide) rfl 44
  have E28 : rE M0 M21 o0 0 0 := E16.same (fun k _ _ => V27 k) (fun k h1 h2 => A26 k (by omega) (by rcases (show k = 4 ∨ k = 5 by omega) with rfl | rfl <;> rfl))
  have h29 : (880 + ra M0 o0 6 44).toNat = (880 + v4).toNatClampNeg := by have := mz_nat9 (i := (880 + v4)) (by have := R12.1 15 _ _ rfl; have := R12.1 16 _ _ rfl; have := R12.1 19 _ _ rfl; have := E16.f yS; omega); have := R12.1 15 _ _ rfl; have := R12.1 16 _ _ rfl; have := R12.1 19 _ _ rfl; have := E16.f yS; omega
  have : ra M21 o0 7 ((880 + ra M0 o0 6 44).toNat) = x1.toInt := (E25 _).trans (if_pos h29)
  have K30 : rK M0 M21 o0 ((880 + ra M0 o0 6 44).toNat) := K17.st A26 E25 (by have := mz_nat9 (i := (880 + v4)) (by have := R12.1 15 _ _ rfl; have := R12.1 16 _ _ rfl; have := R12.1 19 _ _ rfl; have := E16.f yS; omega); have := R12.1 15 _ _ rfl; have := R12.1 16 _ _ rfl; have := R12.1 19 _ _ rfl; have := E16.f yS; omega)
  refine mv_aload_n d_TrustDeskModel_begin_30 rfl rfl ?_
  obtain ⟨a32, q31, t_a32⟩ := tm_atR I22 h_o0 (k := 10) rfl
  refine tr_getK q31 d_TrustDeskModel_begin_31 f_TrustDeskModel_35_13 ?_
  refine mv_iload_n d_TrustDeskModel_begin_34 rfl rfl ?_
  refine mv_aload_n d_TrustDeskModel_begin_35 rfl rfl ?_
  obtain ⟨a34, q33, t_a34⟩ := tm_atR I22 h_o0 (k := 5) rfl
  refine tr_getK q33 d_TrustDeskModel_begin_36 f_TrustDeskModel_20_13 ?_
  refine mv_bipush (v := 44) d_TrustDeskModel_begin_39 (by decide) ?_
  refine tr_ialdR (o := o0) (k := 5) I22 q33 t_a34 (by decide) d_TrustDeskModel_begin_41 (by unfold vp_in; decide) (fun v35 e36 => ?_)
  have := R24.a (k := 5) rfl (44 : Int32).toNatClampNeg
  have : v35.toInt = ra M21 o0 5 44 := e36
  have b37 : (880 + v4 : Int32).toInt = (880 + v4.toInt) := mz_add2 (by decide) rfl (by have := R24.1 15 _ _ rfl; have := R24.1 16 _ _ rfl; have := R24.1 19 _ _ rfl; have := E28.f yS; omega) (by have := R24.1 15 _ _ rfl; have := R24.1 16 _ _ rfl; have := R24.1 19 _ _ rfl; have := E28.f yS; omega)
  refine tr_iastR (k := 10) I22 R24 (I22.up h_o0) q31 t_a32 (by decide) (by decide) (fun lo hi h => by cases h; have := R24.1 15 _ _ rfl; have := R24.1 16 _ _ rfl; have := R24.1 19 _ _ rfl; have := E28.f yS; exact ⟨by show (0 : Int) ≤ v35.toInt; omega, by show v35.toInt ≤ (400 : Int); omega⟩) (Or.inl (by decide)) d_TrustDeskModel_begin_42 (vp_in_iff.mpr (by have := R24.1 15 _ _ rfl; have := R24.1 16 _ _ rfl; have := R24.1 19 _ _ rfl; have := E28.f yS; omega)) (fun M38 I39 K40 R41 E42 A43 V44 => ?_)
  have := V44 15
  have := V44 16
  have := V44 17
  have := V44 19
  have := V44 22
  have := V44 24
  have := A43 5 (by decide) rfl 44
  have := A43 6 (by decide) rfl 44
  have E45 : rE M0 M38 o0 0 0 := E28.same (fun k _ _ => V44 k) (fun k h1 h2 => A43 k (by omega) (by rcases (show k = 4 ∨ k = 5 by omega) with rfl | rfl <;> rfl))
  have := A43 7 (by decide) rfl ((880 + ra M0 o0 6 44).toNat)
  have h46 : (880 + ra M0 o0 6 44).toNat = (880 + v4).toNatClampNeg := by have := mz_nat9 (i := (880 + v4)) (by have := R24.1 15 _ _ rfl; have := R24.1 16 _ _ rfl; have := R24.1 19 _ _ rfl; have := E28.f yS; omega); have := R24.1 15 _ _ rfl; have := R24.1 16 _ _ rfl; have := R24.1 19 _ _ rfl; have := E28.f yS; omega
  have : ra M38 o0 10 ((880 + ra M0 o0 6 44).toNat) = v35.toInt := (E42 _).trans (if_pos h46)
  have K47 : rK M0 M38 o0 ((880 + ra M0 o0 6 44).toNat) := K30.st A43 E42 (by have := mz_nat9 (i := (880 + v4)) (by have := R24.1 15 _ _ rfl; have := R24.1 16 _ _ rfl; have := R24.1 19 _ _ rfl; have := E28.f yS; omega); have := R24.1 15 _ _ rfl; have := R24.1 16 _ _ rfl; have := R24.1 19 _ _ rfl; have := E28.f yS; omega)
  refine mv_aload_n d_TrustDeskModel_begin_43 rfl rfl ?_
  obtain ⟨_, b54, -⟩ := I39.1 _ _ h_o0
  refine mv_callV (kc' := 0) (ks' := 0) (As := []) (st9 := [.ref o0]) d_TrustDeskModel_begin_44 lV_TrustDeskModel_237 b54 rfl (tc_TrustDeskModel_next_x (d := d) (x9 := x9) (o0 := o0) h_o0 R41 I39.start) rfl (Nat.le_of_ble_eq_true rfl) (Nat.le_of_ble_eq_true rfl) (Nat.le_of_ble_eq_true rfl) (hst := rfl) (fun b48r M49 n50 b48 => ?_)
  obtain ⟨T51, J52, rfl, R55, f56, f57⟩ := b48
  have I53 := I39.call J52 (tm_sub (by decide)) (Or.inl rfl)
  have t58 := J52.up h_o0
  have := (rv_c I39 J52 (I39.up h_o0) (k := 19) rfl)
  have := (rv_c I39 J52 (I39.up h_o0) (k := 22) rfl)
  have := (rv_c I39 J52 (I39.up h_o0) (k := 24) rfl)
  have := ra_call I39 J52 (I39.up h_o0) (k := 5) rfl rfl rfl 44
  have := ra_call I39 J52 (I39.up h_o0) (k := 6) rfl rfl rfl 44
  have h60 : rv M38 o0 16 + 1 ≤ rv M38 o0 15 := (by have := R41.1 15 _ _ rfl; have := R41.1 16 _ _ rfl; have := R41.1 19 _ _ rfl; have := E45.f yS; omega)
  have E59 : rE M0 M49 o0 0 1 := E45.next f56 f57 (rv_c I39 J52 (I39.up h_o0) (k := 19) rfl) (rE_ha I39 J52 (I39.up h_o0) (by decide)) (e := 1) h60 (by decide)
  have := ra_call I39 J52 (I39.up h_o0) (k := 7) rfl rfl rfl ((880 + ra M0 o0 6 44).toNat)
  have := ra_call I39 J52 (I39.up h_o0) (k := 10) rfl rfl rfl ((880 + ra M0 o0 6 44).toNat)
  have K61 : rK M0 M49 o0 ((880 + ra M0 o0 6 44).toNat) := K47.same (sA_c I39 J52 (I39.up h_o0) (by decide))
  have q62 := J52.keep h_o0 (by decide) (K40 _ 13 6 _ (K23 _ 13 6 _ (K11 _ 13 6 _ q2)))
  have t63 := J52.up t_a3
  have q64 := J52.keep h_o0 (by decide) (K40 _ 13 7 _ (K23 _ 13 7 _ q18))
  have t65 := J52.up t_a19
  have q66 := J52.keep h_o0 (by decide) (K40 _ 13 10 _ q31)
  have t67 := J52.up t_a32
  have q68 := J52.keep h_o0 (by decide) (K40 _ 13 5 _ q33)
  have t69 := J52.up t_a34
  refine mv_iload_n d_TrustDeskModel_begin_47 rfl rfl ?_
  exact mv_iret d_TrustDeskModel_begin_48 rfl (by first | rfl | decide) ⟨_, I53, _, rfl, R55, E59, (by have := R55.1 15 _ _ rfl; have := R55.1 16 _ _ rfl; have := R55.1 19 _ _ rfl; have := E59.f yS; omega), (by have := R55.1 15 _ _ rfl; have := R55.1 16 _ _ rfl; have := R55.1 19 _ _ rfl; have := E59.f yS; omega), (by have := R55.1 15 _ _ rfl; have := R55.1 16 _ _ rfl; have := R55.1 19 _ _ rfl; have := E59.f yS; omega), (by have := R55.1 15 _ _ rfl; have := R55.1 16 _ _ rfl; have := R55.1 19 _ _ rfl; have := E59.f yS; omega), K61⟩
abbrev kY_TrustDeskModel_readMarks : mj_Y := (⟨"TrustDeskModel", "readMarks", "(I)V"⟩, prog_14_method_35_code, 3, (Option.none : Option Jvm.ClassFile.FieldType))
theorem d_TrustDeskModel_readMarks_0 : decode kY_TrustDeskModel_readMarks.2.1 0 = .ok (.iconst 1, 1) := by decide +kernel
theorem d_TrustDeskModel_readMarks_1 : decode kY_TrustDeskModel_readMarks.2.1 1 = .ok (.aload_n 0, 1) := by decide +kernel
theorem d_TrustDeskModel_readMarks_2 : decode kY_TrustDeskModel_readMarks.2.1 2 = .ok (.iconst 0, 1) := by decide +kernel
theorem d_TrustDeskModel_readMarks_3 : decode kY_TrustDeskModel_readMarks.2.1 3 = .ok (.bipush 7, 2) := by decide +kernel
theorem d_TrustDeskModel_readMarks_5 : decode kY_TrustDeskModel_readMarks.2.1 5 = .ok (.invokevirtual 317, 3) := by decide +kernel
theorem lV_TrustDeskModel_317 : mj_lV "TrustDeskModel" 317 kY_TrustDeskModel_number 2 := ⟨⟨(mj_in1 (List.mem_of_getElem? (i := 1768) (by decide +kernel)) rfl), (mj_in1 (List.mem_of_getElem? (i := 10) (by decide +kernel)) rfl), (mj_in1 (List.mem_of_getElem? (i := 1771) (by decide +kernel)) rfl), by decide, rfl, by decide⟩, (mj_in1 (List.mem_of_getElem? (i := 1770) (by decide +kernel)) rfl), (mj_in (List.mem_append_left _ (List.mem_of_getElem? (i := 102) (by decide +kernel))) rfl)⟩
theorem d_TrustDeskModel_readMarks_8 : decode kY_TrustDeskModel_readMarks.2.1 8 = .ok (.ishl, 1) := by decide +kernel
theorem d_TrustDeskModel_readMarks_9 : decode kY_TrustDeskModel_readMarks.2.1 9 = .ok (.istore_n 2, 1) := by decide +kernel
theorem d_TrustDeskModel_readMarks_10 : decode kY_TrustDeskModel_readMarks.2.1 10 = .ok (.aload_n 0, 1) := by decide +kernel
theorem d_TrustDeskModel_readMarks_11 : decode kY_TrustDeskModel_readMarks.2.1 11 = .ok (.invokevirtual 230, 3) := by decide +kernel
theorem d_TrustDeskModel_readMarks_14 : decode kY_TrustDeskModel_readMarks.2.1 14 = .ok (.ifCond .eq 26, 3) := by decide +kernel
theorem d_TrustDeskModel_readMarks_40 : decode kY_TrustDeskModel_readMarks.2.1 40 = .ok (.aload_n 0, 1) := by decide +kernel
theorem d_TrustDeskModel_readMarks_41 : decode kY_TrustDeskModel_readMarks.2.1 41 = .ok (.getfield 29, 3) := by decide +kernel
theorem f_TrustDeskModel_29_13 : mj_fl "TrustDeskModel" 29 13 8 := ⟨kR_TrustDeskModel, kF_TrustDeskModel, 72, "TrustDeskModel", rfl, kg_13, by decide, (mj_in1 (List.mem_of_getElem? (i := 1394) (by decide +kernel)) rfl), Or.inl rfl⟩
theorem d_TrustDeskModel_readMarks_44 : decode kY_TrustDeskModel_readMarks.2.1 44 = .ok (.iload_n 1, 1) := by decide +kernel
theorem d_TrustDeskModel_readMarks_45 : decode kY_TrustDeskModel_readMarks.2.1 45 = .ok (.iload_n 2, 1) := by decide +kernel
theorem d_TrustDeskModel_readMarks_46 : decode kY_TrustDeskModel_readMarks.2.1 46 = .ok (.iastore, 1) := by decide +kernel
theorem d_TrustDeskModel_readMarks_47 : decode kY_TrustDeskModel_readMarks.2.1 47 = .ok (.return_, 1) := by decide +kernel
theorem d_TrustDeskModel_readMarks_17 : decode kY_TrustDeskModel_readMarks.2.1 17 = .ok (.aload_n 0, 1) := by decide +kernel
theorem d_TrustDeskModel_readMarks_18 : decode kY_TrustDeskModel_readMarks.2.1 18 = .ok (.getfield 198, 3) := by decide +kernel
theorem d_TrustDeskModel_readMarks_21 : decode kY_TrustDeskModel_readMarks.2.1 21 = .ok (.iconst 2, 1) := by decide +kernel
theorem d_TrustDeskModel_readMarks_22 : decode kY_TrustDeskModel_readMarks.2.1 22 = .ok (.if_icmp .ne 18, 3) := by decide +kernel
theorem d_TrustDeskModel_readMarks_25 : decode kY_TrustDeskModel_readMarks.2.1 25 = .ok (.iload_n 2, 1) := by decide +kernel
theorem d_TrustDeskModel_readMarks_26 : decode kY_TrustDeskModel_readMarks.2.1 26 = .ok (.iconst 1, 1) := by decide +kernel
theorem d_TrustDeskModel_readMarks_27 : decode kY_TrustDeskModel_readMarks.2.1 27 = .ok (.aload_n 0, 1) := by decide +kernel
theorem d_TrustDeskModel_readMarks_28 : decode kY_TrustDeskModel_readMarks.2.1 28 = .ok (.iconst 0, 1) := by decide +kernel
theorem d_TrustDeskModel_readMarks_29 : decode kY_TrustDeskModel_readMarks.2.1 29 = .ok (.bipush 7, 2) := by decide +kernel
theorem d_TrustDeskModel_readMarks_31 : decode kY_TrustDeskModel_readMarks.2.1 31 = .ok (.invokevirtual 317, 3) := by decide +kernel
theorem d_TrustDeskModel_readMarks_34 : decode kY_TrustDeskModel_readMarks.2.1 34 = .ok (.ishl, 1) := by decide +kernel
theorem d_TrustDeskModel_readMarks_35 : decode kY_TrustDeskModel_readMarks.2.1 35 = .ok (.ior, 1) := by decide +kernel
theorem d_TrustDeskModel_readMarks_36 : decode kY_TrustDeskModel_readMarks.2.1 36 = .ok (.istore_n 2, 1) := by decide +kernel
theorem d_TrustDeskModel_readMarks_37 : decode kY_TrustDeskModel_readMarks.2.1 37 = .ok (.goto (-27), 3) := by decide +kernel
def w_TrustDeskModel_readMarks_x : List Nat := [1315, 1316, 1317, 1318, 1319, 1320, 20008]
theorem tc_TrustDeskModel_readMarks_x {g : mj_G} {l : Launch} {d : Nat} {T0 : tm_H} {M0 : mj_M} {n0 x9 : Nat} {o0 : Nat} {x1 : Int32} (h_o0 : T0 o0 = some (0, 13, 0)) (yR : rI M0 o0) (yT : rT M0 o0) (yS : rv M0 o0 19 = 0 → ra M0 o0 5 44 ≤ rv M0 o0 16) (yr : 880 ≤ x1.toInt ∧ x1.toInt ≤ 899) (I0 : tm_I tm_FT (tm_in w_TrustDeskModel_readMarks_x) x9 T0 M0 n0 T0 M0 n0) : mj_Met g l kY_TrustDeskModel_readMarks (d + 3) [.ref o0, .int x1] M0 n0 0 0 (tm_Q tm_FT (tm_in w_TrustDeskModel_readMarks_x) x9 T0 M0 n0 (fun r _ M => r = none ∧ rI M o0 ∧ (rE M0 M o0 0 0) ∧ (rK1 8 M0 M o0 x1.toNatClampNeg) ∧ (0 ≤ ra M o0 8 x1.toNatClampNeg))) := by
  refine mj_enter (by decide) (Nat.le_of_ble_eq_true rfl) ?_
  have yE0 := rE.rf yT
  have K1 : rK1 8 M0 M0 o0 x1.toNatClampNeg := rK1.rf
  refine mv_iconst (v := 1) d_TrustDeskModel_readMarks_0 (by decide) ?_
  refine mv_aload_n d_TrustDeskModel_readMarks_1 rfl rfl ?_
  refine mv_iconst (v := 0) d_TrustDeskModel_readMarks_2 (by decide) ?_
  refine mv_bipush (v := 7) d_TrustDeskModel_readMarks_3 (by decide) ?_
  obtain ⟨_, b8, -⟩ := I0.1 _ _ h_o0
  have : (0 : Int32).toInt = 0 := by decide
  have : (7 : Int32).toInt = 7 := by decide
  refine mv_callV (kc' := 0) (ks' := 0) (As := [.int 0, .int 7]) (st9 := [.int 7, .int 0, .ref o0, .int 1]) d_TrustDeskModel_readMarks_5 lV_TrustDeskModel_317 b8 rfl (tc_TrustDeskModel_number_x (d := d) (x9 := x9) (o0 := o0) (x1 := 0) (x2 := 7) h_o0 yR yE0.1 (by have := yR.1 15 _ _ rfl; have := yR.1 16 _ _ rfl; have := yR.1 19 _ _ rfl; have := yE0.f yS; omega) I0.start) rfl (Nat.le_of_ble_eq_true rfl) (Nat.le_of_ble_eq_true rfl) (Nat.le_of_ble_eq_true rfl) (hst := rfl) (fun b2r M3 n4 b2 => ?_)
  obtain ⟨T5, J6, v9, rfl, R10, f11, f12⟩ := b2
  have I7 := I0.call J6 (tm_sub (by decide)) (Or.inl rfl)
  have t13 := J6.up h_o0
  have := ra_call I0 J6 (I0.up h_o0) (k := 5) rfl rfl rfl 44
  have := ra_call I0 J6 (I0.up h_o0) (k := 6) rfl rfl rfl 44
  have E14 : rE M0 M3 o0 0 1 := yE0.trans f11 (by decide) (yR.2 5 _ _ rfl 44).1 (by decide) (by decide)
  have := f11.w
  have := f11.w2
  have K15 : rK1 8 M0 M3 o0 x1.toNatClampNeg := K1.same (((sA_c I0 J6 (I0.up h_o0) (by decide)) : sA [8] _ _ _) 8 rfl)
  have := mz_shl9 (v := v9) (by have := R10.1 15 _ _ rfl; have := R10.1 16 _ _ rfl; have := R10.1 19 _ _ rfl; have := E14.f yS; omega) (by have := R10.1 15 _ _ rfl; have := R10.1 16 _ _ rfl; have := R10.1 19 _ _ rfl; have := E14.f yS; omega)
  refine mv_ishl d_TrustDeskModel_readMarks_8 ?_
  refine mv_istore_n (lv' := [(2, .int (1 <<< (v9 &&& 31))), (0, .ref o0), (1, .int x1)]) d_TrustDeskModel_readMarks_9 rfl (by decide) rfl ?_
  have L10_16 : ∀ (k : Nat) (i2_16 : Int32) (T_16 : tm_H) (M_16 : mj_M) (n_16 : Nat), tm_I tm_FT (tm_in w_TrustDeskModel_readMarks_x) x9 T0 M0 n0 T_16 M_16 n_16 → T_16 o0 = some (0, 13, 0) → 0 ≤ i2_16.toInt → i2_16.toInt ≤ 255 → (rI M_16 o0) → (rE M0 M_16 o0 0 0) → (rK1 8 M0 M_16 o0 x1.toNatClampNeg) → 5 * (401 - rv M_16 o0 16) - rv M_16 o0 19 < (k : Int) → mj_V g l kY_TrustDeskModel_readMarks (d + 3) 10 [(2, .int i2_16), (0, .ref o0), (1, .int x1)] [] M_16 n_16 0 0 (tm_Q tm_FT (tm_in w_TrustDeskModel_readMarks_x) x9 T0 M0 n0 (fun r _ M => r = none ∧ rI M o0 ∧ (rE M0 M o0 0 0) ∧ (rK1 8 M0 M o0 x1.toNatClampNeg) ∧ (0 ≤ ra M o0 8 x1.toNatClampNeg))) := by
    intro k16
    induction k16 with
    | zero =>
      intro i2_16 T_16 M_16 n_16 I_16 h_q0_16 iv0_16 iv1_16 kKR_16 kKE_16 kKH_16 hk16
      have := kKR_16.1 15 _ _ rfl
      have := kKR_16.1 16 _ _ rfl
      have := kKR_16.1 19 _ _ rfl
      exfalso; omega
    | succ k16 ih16 =>
      intro i2_16 T_16 M_16 n_16 I_16 h_q0_16 iv0_16 iv1_16 kKR_16 kKE_16 kKH_16 hk16
      have := kKE_16.f yS
      refine mv_aload_n d_TrustDeskModel_readMarks_10 rfl rfl ?_
      obtain ⟨_, b17, -⟩ := I_16.1 _ _ h_q0_16
      refine mv_callV (kc1 := 0) (ks1 := 0) (kc' := 0) (ks' := 0) (As := []) (st9 := [.ref o0]) d_TrustDeskModel_readMarks_11 lV_TrustDeskModel_230 b17 rfl (mj_enter (by decide) (Nat.le_of_ble_eq_true rfl) ?_) rfl (Nat.le_of_ble_eq_true rfl) (Nat.le_of_ble_eq_true rfl) (Nat.le_of_ble_eq_true rfl) (hst := rfl) (fun _ _ _ h => h)
      refine mv_aload_n d_TrustDeskModel_isWell_0 rfl rfl ?_
      obtain ⟨v19, q18⟩ := tm_atI I_16 h_q0_16 (k := 19) rfl
      refine tr_getK q18 d_TrustDeskModel_isWell_1 f_TrustDeskModel_224_13 ?_
      have := kKR_16.f (k := 19) q18 rfl
      have := tm_rv q18
      have := mz_hi v19
      refine mv_if_neZ (tgt := 11) (a := v19.toInt) d_TrustDeskModel_isWell_4 (by decide) rfl (fun b20 => ?_) (fun b20 => ?_)
      · refine mv_iconst (v := 0) d_TrustDeskModel_isWell_11 (by decide) ?_
        refine mv_iret d_TrustDeskModel_isWell_12 rfl (by decide) ?_
        refine mv_if_eq_t (tgt := 40) d_TrustDeskModel_readMarks_14 (by decide) (by decide) ?_
        refine mv_aload_n d_TrustDeskModel_readMarks_40 rfl rfl ?_
        obtain ⟨a22, q21, t_a22⟩ := tm_atR I_16 h_q0_16 (k := 8) rfl
        refine tr_getK q21 d_TrustDeskModel_readMarks_41 f_TrustDeskModel_29_13 ?_
        refine mv_iload_n d_TrustDeskModel_readMarks_44 rfl rfl ?_
        refine mv_iload_n d_TrustDeskModel_readMarks_45 rfl rfl ?_
        refine tr_iastR (k := 8) I_16 kKR_16 (I_16.up h_o0) q21 t_a22 (by decide) (by decide) (fun lo hi h => by cases h; have := kKR_16.1 15 _ _ rfl; have := kKR_16.1 16 _ _ rfl; have := kKR_16.1 19 _ _ rfl; have := kKE_16.f yS; exact ⟨by show ((-1) : Int) ≤ i2_16.toInt; omega, by show i2_16.toInt ≤ (720 : Int); omega⟩) (Or.inl (by decide)) d_TrustDeskModel_readMarks_46 (vp_in_iff.mpr (by have := kKR_16.1 15 _ _ rfl; have := kKR_16.1 16 _ _ rfl; have := kKR_16.1 19 _ _ rfl; have := kKE_16.f yS; omega)) (fun M23 I24 K25 R26 E27 A28 V29 => ?_)
        have := V29 16
        have := V29 17
        have := V29 19
        have := A28 5 (by decide) rfl 44
        have := A28 6 (by decide) rfl 44
        have E30 : rE M0 M23 o0 0 0 := kKE_16.same (fun k _ _ => V29 k) (fun k h1 h2 => A28 k (by omega) (by rcases (show k = 4 ∨ k = 5 by omega) with rfl | rfl <;> rfl))
        have h31 : x1.toNatClampNeg = x1.toNatClampNeg := by have := mz_nat9 (i := x1) (by have := kKR_16.1 15 _ _ rfl; have := kKR_16.1 16 _ _ rfl; have := kKR_16.1 19 _ _ rfl; have := kKE_16.f yS; omega); have := kKR_16.1 15 _ _ rfl; have := kKR_16.1 16 _ _ rfl; have := kKR_16.1 19 _ _ rfl; have := kKE_16.f yS; omega
        have : ra M23 o0 8 x1.toNatClampNeg = i2_16.toInt := (E27 _).trans (if_pos h31)
        have K32 : rK1 8 M0 M23 o0 x1.toNatClampNeg := kKH_16.st E27 rfl
        exact mv_vret d_TrustDeskModel_readMarks_47 rfl ⟨_, I24, rfl, R26, E30, K32, (by have := R26.1 15 _ _ rfl; have := R26.1 16 _ _ rfl; have := R26.1 19 _ _ rfl; have := E30.f yS; omega)⟩
      · refine mv_iconst (v := 1) d_TrustDeskModel_isWell_7 (by decide) ?_
        refine mv_goto (tgt := 12) d_TrustDeskModel_isWell_8 (by decide) ?_
        refine mv_iret d_TrustDeskModel_isWell_12 rfl (by decide) ?_
        refine mv_if_eq_f (tgt := 40) d_TrustDeskModel_readMarks_14 (by decide) (by decide) ?_
        refine mv_aload_n d_TrustDeskModel_readMarks_17 rfl rfl ?_
        obtain ⟨v34, q33⟩ := tm_atI I_16 h_q0_16 (k := 17) rfl
        refine tr_getK q33 d_TrustDeskModel_readMarks_18 f_TrustDeskModel_198_13 ?_
        have := tm_rv q33
        refine mv_iconst (v := 2) d_TrustDeskModel_readMarks_21 (by decide) ?_
        have := mz_hi v34
        refine mv_icmp_neZ (tgt := 40) (a := v34.toInt) (b := 2) d_TrustDeskModel_readMarks_22 (by decide) rfl (by decide) (fun b35 => ?_) (fun b35 => ?_)
        · refine mv_aload_n d_TrustDeskModel_readMarks_40 rfl rfl ?_
          obtain ⟨a37, q36, t_a37⟩ := tm_atR I_16 h_q0_16 (k := 8) rfl
          refine tr_getK q36 d_TrustDeskModel_readMarks_41 f_TrustDeskModel_29_13 ?_
          refine mv_iload_n d_TrustDeskModel_readMarks_44 rfl rfl ?_
          refine mv_iload_n d_TrustDeskModel_readMarks_45 rfl rfl ?_
          refine tr_iastR (k := 8) I_16 kKR_16 (I_16.up h_o0) q36 t_a37 (by decide) (by decide) (fun lo hi h => by cases h; have := kKR_16.1 15 _ _ rfl; have := kKR_16.1 16 _ _ rfl; have := kKR_16.1 19 _ _ rfl; have := kKE_16.f yS; exact ⟨by show ((-1) : Int) ≤ i2_16.toInt; omega, by show i2_16.toInt ≤ (720 : Int); omega⟩) (Or.inl (by decide)) d_TrustDeskModel_readMarks_46 (vp_in_iff.mpr (by have := kKR_16.1 15 _ _ rfl; have := kKR_16.1 16 _ _ rfl; have := kKR_16.1 19 _ _ rfl; have := kKE_16.f yS; omega)) (fun M38 I39 K40 R41 E42 A43 V44 => ?_)
          have := V44 16
          have := V44 17
          have := V44 19
          have := A43 5 (by decide) rfl 44
          have := A43 6 (by decide) rfl 44
          have E45 : rE M0 M38 o0 0 0 := kKE_16.same (fun k _ _ => V44 k) (fun k h1 h2 => A43 k (by omega) (by rcases (show k = 4 ∨ k = 5 by omega) with rfl | rfl <;> rfl))
          have h46 : x1.toNatClampNeg = x1.toNatClampNeg := by have := mz_nat9 (i := x1) (by have := kKR_16.1 15 _ _ rfl; have := kKR_16.1 16 _ _ rfl; have := kKR_16.1 19 _ _ rfl; have := kKE_16.f yS; omega); have := kKR_16.1 15 _ _ rfl; have := kKR_16.1 16 _ _ rfl; have := kKR_16.1 19 _ _ rfl; have := kKE_16.f yS; omega
          have : ra M38 o0 8 x1.toNatClampNeg = i2_16.toInt := (E42 _).trans (if_pos h46)
          have K47 : rK1 8 M0 M38 o0 x1.toNatClampNeg := kKH_16.st E42 rfl
          exact mv_vret d_TrustDeskModel_readMarks_47 rfl ⟨_, I39, rfl, R41, E45, K47, (by have := R41.1 15 _ _ rfl; have := R41.1 16 _ _ rfl; have := R41.1 19 _ _ rfl; have := E45.f yS; omega)⟩
        · refine mv_iload_n d_TrustDeskModel_readMarks_25 rfl rfl ?_
          refine mv_iconst (v := 1) d_TrustDeskModel_readMarks_26 (by decide) ?_
          refine mv_aload_n d_TrustDeskModel_readMarks_27 rfl rfl ?_
          refine mv_iconst (v := 0) d_TrustDeskModel_readMarks_28 (by decide) ?_
          refine mv_bipush (v := 7) d_TrustDeskModel_readMarks_29 (by decide) ?_
          obtain ⟨_, b54, -⟩ := I_16.1 _ _ h_q0_16
          have : (0 : Int32).toInt = 0 := by decide
          have : (7 : Int32).toInt = 7 := by decide
          refine mv_callV (kc' := 0) (ks' := 0) (As := [.int 0, .int 7]) (st9 := [.int 7, .int 0, .ref o0, .int 1, .int i2_16]) d_TrustDeskModel_readMarks_31 lV_TrustDeskModel_317 b54 rfl (tc_TrustDeskModel_number_x (d := d) (x9 := x9) (o0 := o0) (x1 := 0) (x2 := 7) h_q0_16 kKR_16 kKE_16.1 (by have := kKR_16.1 15 _ _ rfl; have := kKR_16.1 16 _ _ rfl; have := kKR_16.1 19 _ _ rfl; have := kKE_16.f yS; omega) I_16.start) rfl (Nat.le_of_ble_eq_true rfl) (Nat.le_of_ble_eq_true rfl) (Nat.le_of_ble_eq_true rfl) (hst := rfl) (fun b48r M49 n50 b48 => ?_)
          obtain ⟨T51, J52, v55, rfl, R56, f57, f58⟩ := b48
          have I53 := I_16.call J52 (tm_sub (by decide)) (Or.inl rfl)
          have t59 := J52.up h_q0_16
          have := ra_call I_16 J52 (I_16.up h_o0) (k := 5) rfl rfl rfl 44
          have := ra_call I_16 J52 (I_16.up h_o0) (k := 6) rfl rfl rfl 44
          have E60 : rE M0 M49 o0 0 1 := kKE_16.trans f57 (by decide) (yR.2 5 _ _ rfl 44).1 (by decide) (by decide)
          have := f57.w
          have := f57.w2
          have K61 : rK1 8 M0 M49 o0 x1.toNatClampNeg := kKH_16.same (((sA_c I_16 J52 (I_16.up h_o0) (by decide)) : sA [8] _ _ _) 8 rfl)
          have := mz_shl9 (v := v55) (by have := R56.1 15 _ _ rfl; have := R56.1 16 _ _ rfl; have := R56.1 19 _ _ rfl; have := E60.f yS; omega) (by have := R56.1 15 _ _ rfl; have := R56.1 16 _ _ rfl; have := R56.1 19 _ _ rfl; have := E60.f yS; omega)
          refine mv_ishl d_TrustDeskModel_readMarks_34 ?_
          have := mz_or9 (a := i2_16) (b := (1 <<< (v55 &&& 31))) (by have := R56.1 15 _ _ rfl; have := R56.1 16 _ _ rfl; have := R56.1 19 _ _ rfl; have := E60.f yS; omega) (by have := R56.1 15 _ _ rfl; have := R56.1 16 _ _ rfl; have := R56.1 19 _ _ rfl; have := E60.f yS; omega) (by have := R56.1 15 _ _ rfl; have := R56.1 16 _ _ rfl; have := R56.1 19 _ _ rfl; have := E60.f yS; omega) (by have := R56.1 15 _ _ rfl; have := R56.1 16 _ _ rfl; have := R56.1 19 _ _ rfl; have := E60.f yS; omega)
          refine mv_ior d_TrustDeskModel_readMarks_35 ?_
          refine mv_istore_n (lv' := [(2, .int (i2_16 ||| (1 <<< (v55 &&& 31)))), (0, .ref o0), (1, .int x1)]) d_TrustDeskModel_readMarks_36 rfl (by decide) rfl ?_
          refine mv_goto (tgt := 10) d_TrustDeskModel_readMarks_37 (by decide) ?_
          have E62 : rE M0 M49 o0 0 0 := E60.less (by decide)
          exact (ih16 (i2_16 ||| (1 <<< (v55 &&& 31))) T51 M49 n50 I53 t59 (by have := R56.1 15 _ _ rfl; have := R56.1 16 _ _ rfl; have := R56.1 19 _ _ rfl; have := E62.f yS; first | omega | decide | exact fun h9 => absurd (by decide) h9) (by have := R56.1 15 _ _ rfl; have := R56.1 16 _ _ rfl; have := R56.1 19 _ _ rfl; have := E62.f yS; first | omega | decide | exact fun h9 => absurd (by decide) h9) R56 E62 K61 (by have := R56.1 15 _ _ rfl; have := R56.1 16 _ _ rfl; have := R56.1 19 _ _ rfl; have := E62.f yS; omega))
  have E63 : rE M0 M3 o0 0 0 := E14.less (by decide)
  exact mv_less (Nat.zero_le _) (Nat.zero_le _) (L10_16 4294967296 (1 <<< (v9 &&& 31)) T5 M3 n4 I7 t13 (by have := R10.1 15 _ _ rfl; have := R10.1 16 _ _ rfl; have := R10.1 19 _ _ rfl; have := E63.f yS; first | omega | decide | exact fun h9 => absurd (by decide) h9) (by have := R10.1 15 _ _ rfl; have := R10.1 16 _ _ rfl; have := R10.1 19 _ _ rfl; have := E63.f yS; first | omega | decide | exact fun h9 => absurd (by decide) h9) R10 E63 K15 (by have := R10.1 15 _ _ rfl; have := R10.1 16 _ _ rfl; have := R10.1 19 _ _ rfl; have := E63.f yS; omega))
abbrev kY_TrustDeskModel_isThere : mj_Y := (⟨"TrustDeskModel", "isThere", "()Z"⟩, prog_14_method_36_code, 5, (Option.some Jvm.ClassFile.FieldType.boolean))
theorem d_TrustDeskModel_isThere_0 : decode kY_TrustDeskModel_isThere.2.1 0 = .ok (.iconst 0, 1) := by decide +kernel
theorem d_TrustDeskModel_isThere_1 : decode kY_TrustDeskModel_isThere.2.1 1 = .ok (.istore_n 1, 1) := by decide +kernel
theorem d_TrustDeskModel_isThere_2 : decode kY_TrustDeskModel_isThere.2.1 2 = .ok (.iconst 0, 1) := by decide +kernel
theorem d_TrustDeskModel_isThere_3 : decode kY_TrustDeskModel_isThere.2.1 3 = .ok (.istore_n 2, 1) := by decide +kernel
theorem d_TrustDeskModel_isThere_4 : decode kY_TrustDeskModel_isThere.2.1 4 = .ok (.iload_n 2, 1) := by decide +kernel
theorem d_TrustDeskModel_isThere_5 : decode kY_TrustDeskModel_isThere.2.1 5 = .ok (.aload_n 0, 1) := by decide +kernel
theorem d_TrustDeskModel_isThere_6 : decode kY_TrustDeskModel_isThere.2.1 6 = .ok (.getfield 321, 3) := by decide +kernel
theorem f_TrustDeskModel_321_13 : mj_fl "TrustDeskModel" 321 13 24 := ⟨kR_TrustDeskModel, kF_TrustDeskModel, 72, "TrustDeskModel", rfl, kg_13, by decide, (mj_in1 (List.mem_of_getElem? (i := 1410) (by decide +kernel)) rfl), Or.inl rfl⟩
theorem d_TrustDeskModel_isThere_9 : decode kY_TrustDeskModel_isThere.2.1 9 = .ok (.if_icmp .ge 106, 3) := by decide +kernel
theorem d_TrustDeskModel_isThere_115 : decode kY_TrustDeskModel_isThere.2.1 115 = .ok (.iload_n 1, 1) := by decide +kernel
theorem d_TrustDeskModel_isThere_116 : decode kY_TrustDeskModel_isThere.2.1 116 = .ok (.ireturn, 1) := by decide +kernel
theorem d_TrustDeskModel_isThere_12 : decode kY_TrustDeskModel_isThere.2.1 12 = .ok (.aload_n 0, 1) := by decide +kernel
theorem d_TrustDeskModel_isThere_13 : decode kY_TrustDeskModel_isThere.2.1 13 = .ok (.getfield 54, 3) := by decide +kernel
theorem f_TrustDeskModel_54_13 : mj_fl "TrustDeskModel" 54 13 26 := ⟨kR_TrustDeskModel, kF_TrustDeskModel, 72, "TrustDeskModel", rfl, kg_13, by decide, (mj_in1 (List.mem_of_getElem? (i := 1412) (by decide +kernel)) rfl), Or.inl rfl⟩
theorem d_TrustDeskModel_isThere_16 : decode kY_TrustDeskModel_isThere.2.1 16 = .ok (.iload_n 2, 1) := by decide +kernel
theorem d_TrustDeskModel_isThere_17 : decode kY_TrustDeskModel_isThere.2.1 17 = .ok (.iaload, 1) := by decide +kernel
theorem d_TrustDeskModel_isThere_18 : decode kY_TrustDeskModel_isThere.2.1 18 = .ok (.aload_n 0, 1) := by decide +kernel
theorem d_TrustDeskModel_isThere_19 : decode kY_TrustDeskModel_isThere.2.1 19 = .ok (.getfield 192, 3) := by decide +kernel
theorem d_TrustDeskModel_isThere_22 : decode kY_TrustDeskModel_isThere.2.1 22 = .ok (.aload_n 0, 1) := by decide +kernel
theorem d_TrustDeskModel_isThere_23 : decode kY_TrustDeskModel_isThere.2.1 23 = .ok (.getfield 195, 3) := by decide +kernel
theorem d_TrustDeskModel_isThere_26 : decode kY_TrustDeskModel_isThere.2.1 26 = .ok (.isub, 1) := by decide +kernel
theorem d_TrustDeskModel_isThere_27 : decode kY_TrustDeskModel_isThere.2.1 27 = .ok (.if_icmp .ne 7, 3) := by decide +kernel
theorem d_TrustDeskModel_isThere_34 : decode kY_TrustDeskModel_isThere.2.1 34 = .ok (.iconst 0, 1) := by decide +kernel
theorem d_TrustDeskModel_isThere_35 : decode kY_TrustDeskModel_isThere.2.1 35 = .ok (.istore_n 3, 1) := by decide +kernel
theorem d_TrustDeskModel_isThere_36 : decode kY_TrustDeskModel_isThere.2.1 36 = .ok (.iconst 0, 1) := by decide +kernel
theorem d_TrustDeskModel_isThere_37 : decode kY_TrustDeskModel_isThere.2.1 37 = .ok (.istore 4, 2) := by decide +kernel
theorem d_TrustDeskModel_isThere_39 : decode kY_TrustDeskModel_isThere.2.1 39 = .ok (.iload 4, 2) := by decide +kernel
theorem d_TrustDeskModel_isThere_41 : decode kY_TrustDeskModel_isThere.2.1 41 = .ok (.aload_n 0, 1) := by decide +kernel
theorem d_TrustDeskModel_isThere_42 : decode kY_TrustDeskModel_isThere.2.1 42 = .ok (.getfield 54, 3) := by decide +kernel
theorem d_TrustDeskModel_isThere_45 : decode kY_TrustDeskModel_isThere.2.1 45 = .ok (.iload_n 2, 1) := by decide +kernel
theorem d_TrustDeskModel_isThere_46 : decode kY_TrustDeskModel_isThere.2.1 46 = .ok (.iaload, 1) := by decide +kernel
theorem d_TrustDeskModel_isThere_47 : decode kY_TrustDeskModel_isThere.2.1 47 = .ok (.if_icmp .ge 48, 3) := by decide +kernel
theorem d_TrustDeskModel_isThere_95 : decode kY_TrustDeskModel_isThere.2.1 95 = .ok (.iload_n 1, 1) := by decide +kernel
theorem d_TrustDeskModel_isThere_96 : decode kY_TrustDeskModel_isThere.2.1 96 = .ok (.ifCond .ne 7, 3) := by decide +kernel
theorem d_TrustDeskModel_isThere_103 : decode kY_TrustDeskModel_isThere.2.1 103 = .ok (.iconst 1, 1) := by decide +kernel
theorem d_TrustDeskModel_isThere_104 : decode kY_TrustDeskModel_isThere.2.1 104 = .ok (.goto 4, 3) := by decide +kernel
theorem d_TrustDeskModel_isThere_108 : decode kY_TrustDeskModel_isThere.2.1 108 = .ok (.istore_n 1, 1) := by decide +kernel
theorem d_TrustDeskModel_isThere_109 : decode kY_TrustDeskModel_isThere.2.1 109 = .ok (.iinc 2 1, 3) := by decide +kernel
theorem d_TrustDeskModel_isThere_112 : decode kY_TrustDeskModel_isThere.2.1 112 = .ok (.goto (-108), 3) := by decide +kernel
theorem d_TrustDeskModel_isThere_99 : decode kY_TrustDeskModel_isThere.2.1 99 = .ok (.iload_n 3, 1) := by decide +kernel
theorem d_TrustDeskModel_isThere_100 : decode kY_TrustDeskModel_isThere.2.1 100 = .ok (.ifCond .eq 7, 3) := by decide +kernel
theorem d_TrustDeskModel_isThere_107 : decode kY_TrustDeskModel_isThere.2.1 107 = .ok (.iconst 0, 1) := by decide +kernel
theorem d_TrustDeskModel_isThere_50 : decode kY_TrustDeskModel_isThere.2.1 50 = .ok (.iload_n 3, 1) := by decide +kernel
theorem d_TrustDeskModel_isThere_51 : decode kY_TrustDeskModel_isThere.2.1 51 = .ok (.ifCond .eq 44, 3) := by decide +kernel
theorem d_TrustDeskModel_isThere_54 : decode kY_TrustDeskModel_isThere.2.1 54 = .ok (.aload_n 0, 1) := by decide +kernel
theorem d_TrustDeskModel_isThere_55 : decode kY_TrustDeskModel_isThere.2.1 55 = .ok (.getfield 44, 3) := by decide +kernel
theorem d_TrustDeskModel_isThere_58 : decode kY_TrustDeskModel_isThere.2.1 58 = .ok (.aload_n 0, 1) := by decide +kernel
theorem d_TrustDeskModel_isThere_59 : decode kY_TrustDeskModel_isThere.2.1 59 = .ok (.getfield 195, 3) := by decide +kernel
theorem d_TrustDeskModel_isThere_62 : decode kY_TrustDeskModel_isThere.2.1 62 = .ok (.iload 4, 2) := by decide +kernel
theorem d_TrustDeskModel_isThere_64 : decode kY_TrustDeskModel_isThere.2.1 64 = .ok (.iadd, 1) := by decide +kernel
theorem d_TrustDeskModel_isThere_65 : decode kY_TrustDeskModel_isThere.2.1 65 = .ok (.baload, 1) := by decide +kernel
theorem d_TrustDeskModel_isThere_66 : decode kY_TrustDeskModel_isThere.2.1 66 = .ok (.aload_n 0, 1) := by decide +kernel
theorem d_TrustDeskModel_isThere_67 : decode kY_TrustDeskModel_isThere.2.1 67 = .ok (.getfield 44, 3) := by decide +kernel
theorem d_TrustDeskModel_isThere_70 : decode kY_TrustDeskModel_isThere.2.1 70 = .ok (.aload_n 0, 1) := by decide +kernel
theorem d_TrustDeskModel_isThere_71 : decode kY_TrustDeskModel_isThere.2.1 71 = .ok (.getfield 51, 3) := by decide +kernel
theorem f_TrustDeskModel_51_13 : mj_fl "TrustDeskModel" 51 13 25 := ⟨kR_TrustDeskModel, kF_TrustDeskModel, 72, "TrustDeskModel", rfl, kg_13, by decide, (mj_in1 (List.mem_of_getElem? (i := 1411) (by decide +kernel)) rfl), Or.inl rfl⟩
theorem d_TrustDeskModel_isThere_74 : decode kY_TrustDeskModel_isThere.2.1 74 = .ok (.iload_n 2, 1) := by decide +kernel
theorem d_TrustDeskModel_isThere_75 : decode kY_TrustDeskModel_isThere.2.1 75 = .ok (.iaload, 1) := by decide +kernel
theorem d_TrustDeskModel_isThere_76 : decode kY_TrustDeskModel_isThere.2.1 76 = .ok (.iload 4, 2) := by decide +kernel
theorem d_TrustDeskModel_isThere_78 : decode kY_TrustDeskModel_isThere.2.1 78 = .ok (.iadd, 1) := by decide +kernel
theorem d_TrustDeskModel_isThere_79 : decode kY_TrustDeskModel_isThere.2.1 79 = .ok (.baload, 1) := by decide +kernel
theorem d_TrustDeskModel_isThere_80 : decode kY_TrustDeskModel_isThere.2.1 80 = .ok (.if_icmp .ne 7, 3) := by decide +kernel
theorem d_TrustDeskModel_isThere_87 : decode kY_TrustDeskModel_isThere.2.1 87 = .ok (.iconst 0, 1) := by decide +kernel
theorem d_TrustDeskModel_isThere_88 : decode kY_TrustDeskModel_isThere.2.1 88 = .ok (.istore_n 3, 1) := by decide +kernel
theorem d_TrustDeskModel_isThere_89 : decode kY_TrustDeskModel_isThere.2.1 89 = .ok (.iinc 4 1, 3) := by decide +kernel
theorem d_TrustDeskModel_isThere_92 : decode kY_TrustDeskModel_isThere.2.1 92 = .ok (.goto (-53), 3) := by decide +kernel
theorem d_TrustDeskModel_isThere_83 : decode kY_TrustDeskModel_isThere.2.1 83 = .ok (.iconst 1, 1) := by decide +kernel
theorem d_TrustDeskModel_isThere_84 : decode kY_TrustDeskModel_isThere.2.1 84 = .ok (.goto 4, 3) := by decide +kernel
theorem d_TrustDeskModel_isThere_30 : decode kY_TrustDeskModel_isThere.2.1 30 = .ok (.iconst 1, 1) := by decide +kernel
theorem d_TrustDeskModel_isThere_31 : decode kY_TrustDeskModel_isThere.2.1 31 = .ok (.goto 4, 3) := by decide +kernel
def w_TrustDeskModel_isThere_x : List Nat := []
theorem tc_TrustDeskModel_isThere_x {g : mj_G} {l : Launch} {d : Nat} {T0 : tm_H} {M0 : mj_M} {n0 x9 : Nat} {o0 : Nat} (h_o0 : T0 o0 = some (0, 13, 0)) (yR : rI M0 o0) (yT : rT M0 o0) (yn : nN M0 o0) (I0 : tm_I tm_FT (tm_in w_TrustDeskModel_isThere_x) x9 T0 M0 n0 T0 M0 n0) : mj_Met g l kY_TrustDeskModel_isThere d [.ref o0] M0 n0 0 0 (tm_Q tm_FT (tm_in w_TrustDeskModel_isThere_x) x9 T0 M0 n0 (fun r _ M => ∃ v : Int32, r = some (.int v) ∧ 0 ≤ v.toInt ∧ v.toInt ≤ 1 ∧ rI M o0)) := by
  refine mj_enter (by decide) (Nat.le_of_ble_eq_true rfl) ?_
  have K1 : nN M0 o0 := yn
  refine mv_iconst (v := 0) d_TrustDeskModel_isThere_0 (by decide) ?_
  refine mv_istore_n (lv' := [(1, .int 0), (0, .ref o0)]) d_TrustDeskModel_isThere_1 rfl (by decide) rfl ?_
  refine mv_iconst (v := 0) d_TrustDeskModel_isThere_2 (by decide) ?_
  refine mv_istore_n (lv' := [(2, .int 0), (1, .int 0), (0, .ref o0)]) d_TrustDeskModel_isThere_3 rfl (by decide) rfl ?_
  have L4_2 : ∀ (k : Nat) (i2_2 : Int32) (i1_2 : Int32) (T_2 : tm_H) (M_2 : mj_M) (n_2 : Nat), tm_I tm_FT (tm_in w_TrustDeskModel_isThere_x) x9 T0 M0 n0 T_2 M_2 n_2 → T_2 o0 = some (0, 13, 0) → 0 ≤ i2_2.toInt → rv M_2 o0 15 = rv M0 o0 15 → rv M_2 o0 16 = rv M0 o0 16 → rv M_2 o0 24 = rv M0 o0 24 → 0 ≤ i1_2.toInt → i1_2.toInt ≤ 1 → (rI M_2 o0) → (nN M_2 o0) → 2147483647 - i2_2.toInt < (k : Int) → mj_V g l kY_TrustDeskModel_isThere d 4 [(2, .int i2_2), (1, .int i1_2), (0, .ref o0)] [] M_2 n_2 0 0 (tm_Q tm_FT (tm_in w_TrustDeskModel_isThere_x) x9 T0 M0 n0 (fun r _ M => ∃ v : Int32, r = some (.int v) ∧ 0 ≤ v.toInt ∧ v.toInt ≤ 1 ∧ rI M o0)) := by
    intro k2
    induction k2 with
    | zero =>
      intro i2_2 i1_2 T_2 M_2 n_2 I_2 h_q0_2 iv0_2 iv1_2 iv2_2 iv3_2 iv4_2 iv5_2 kKR_2 kKN_2 hk2
      have := mz_hi i2_2
      have := kKR_2.1 15 _ _ rfl
      have := kKR_2.1 16 _ _ rfl
      have := kKR_2.1 19 _ _ rfl
      omega
    | succ k2 ih2 =>
      intro i2_2 i1_2 T_2 M_2 n_2 I_2 h_q0_2 iv0_2 iv1_2 iv2_2 iv3_2 iv4_2 iv5_2 kKR_2 kKN_2 hk2
      refine mv_iload_n d_TrustDeskModel_isThere_4 rfl rfl ?_
      refine mv_aload_n d_TrustDeskModel_isThere_5 rfl rfl ?_
      obtain ⟨v4, q3⟩ := tm_atI I_2 h_q0_2 (k := 24) rfl
      refine tr_getK q3 d_TrustDeskModel_isThere_6 f_TrustDeskModel_321_13 ?_
      have := kKR_2.f (k := 24) q3 rfl
      have := tm_rv q3
      have := mz_hi i2_2
      have := mz_hi v4
      refine mv_icmp_geZ (tgt := 115) (a := i2_2.toInt) (b := v4.toInt) d_TrustDeskModel_isThere_9 (by decide) rfl rfl (fun b5 => ?_) (fun b5 => ?_)
      · refine mv_iload_n d_TrustDeskModel_isThere_115 rfl rfl ?_
        exact mv_iret d_TrustDeskModel_isThere_116 rfl (mz_nb (by omega) (by omega)) ⟨_, I_2, _, rfl, by omega, by omega, kKR_2⟩
      · refine mv_aload_n d_TrustDeskModel_isThere_12 rfl rfl ?_
        obtain ⟨a7, q6, t_a7⟩ := tm_atR I_2 h_q0_2 (k := 26) rfl
        refine tr_getK q6 d_TrustDeskModel_isThere_13 f_TrustDeskModel_54_13 ?_
        refine mv_iload_n d_TrustDeskModel_isThere_16 rfl rfl ?_
        refine tr_ialdR (o := o0) (k := 26) I_2 q6 t_a7 (by decide) d_TrustDeskModel_isThere_17 (vp_in_iff.mpr (by have := kKR_2.1 15 _ _ rfl; have := kKR_2.1 16 _ _ rfl; have := kKR_2.1 19 _ _ rfl; omega)) (fun v8 e9 => ?_)
        have := kKR_2.a (k := 26) rfl (i2_2 : Int32).toNatClampNeg
        have := kKN_2 i2_2.toNatClampNeg (by rw [mz_nat9 (by have := kKR_2.1 15 _ _ rfl; have := kKR_2.1 16 _ _ rfl; have := kKR_2.1 19 _ _ rfl; omega)]; have := kKR_2.1 15 _ _ rfl; have := kKR_2.1 16 _ _ rfl; have := kKR_2.1 19 _ _ rfl; omega)
        refine mv_aload_n d_TrustDeskModel_isThere_18 rfl rfl ?_
        obtain ⟨v11, q10⟩ := tm_atI I_2 h_q0_2 (k := 15) rfl
        refine tr_getK q10 d_TrustDeskModel_isThere_19 f_TrustDeskModel_192_13 ?_
        have := kKR_2.f (k := 15) q10 rfl
        have := tm_rv q10
        refine mv_aload_n d_TrustDeskModel_isThere_22 rfl rfl ?_
        obtain ⟨v13, q12⟩ := tm_atI I_2 h_q0_2 (k := 16) rfl
        refine tr_getK q12 d_TrustDeskModel_isThere_23 f_TrustDeskModel_195_13 ?_
        have := kKR_2.f (k := 16) q12 rfl
        have := tm_rv q12
        refine mv_isub d_TrustDeskModel_isThere_26 ?_
        have b14 : (v11 - v13 : Int32).toInt = (v11.toInt - v13.toInt) := mz_sub2 rfl rfl (by have := kKR_2.1 15 _ _ rfl; have := kKR_2.1 16 _ _ rfl; have := kKR_2.1 19 _ _ rfl; omega) (by have := kKR_2.1 15 _ _ rfl; have := kKR_2.1 16 _ _ rfl; have := kKR_2.1 19 _ _ rfl; omega)
        have := mz_hi v8
        have := mz_hi (v11 - v13)
        refine mv_icmp_neZ (tgt := 34) (a := v8.toInt) (b := (v11 - v13).toInt) d_TrustDeskModel_isThere_27 (by decide) rfl rfl (fun b15 => ?_) (fun b15 => ?_)
        · refine mv_iconst (v := 0) d_TrustDeskModel_isThere_34 (by decide) ?_
          refine mv_istore_n (lv' := [(3, .int 0), (2, .int i2_2), (1, .int i1_2), (0, .ref o0)]) d_TrustDeskModel_isThere_35 rfl (by decide) rfl ?_
          refine mv_iconst (v := 0) d_TrustDeskModel_isThere_36 (by decide) ?_
          refine mv_istore (lv' := [(4, .int 0), (3, .int 0), (2, .int i2_2), (1, .int i1_2), (0, .ref o0)]) d_TrustDeskModel_isThere_37 (by decide) rfl ?_
          have L39_16 : ∀ (k : Nat) (i4_16 : Int32) (i3_16 : Int32) (T_16 : tm_H) (M_16 : mj_M) (n_16 : Nat), tm_I tm_FT (tm_in w_TrustDeskModel_isThere_x) x9 T0 M0 n0 T_16 M_16 n_16 → T_16 o0 = some (0, 13, 0) → 0 ≤ i4_16.toInt → rv M_16 o0 15 = rv M0 o0 15 → rv M_16 o0 16 = rv M0 o0 16 → rv M_16 o0 24 = rv M0 o0 24 → 0 ≤ i2_2.toInt → i2_2.toInt < rv M_16 o0 24 → 0 ≤ i3_16.toInt → i3_16.toInt ≤ 1 → (i3_16.toInt ≠ 0 → ra M_16 o0 26 (i2_2).toNatClampNeg = rv M0 o0 15 - rv M0 o0 16) → (rI M_16 o0) → (nN M_16 o0) → 2147483647 - i4_16.toInt < (k : Int) → mj_V g l kY_TrustDeskModel_isThere d 39 [(4, .int i4_16), (3, .int i3_16), (2, .int i2_2), (1, .int i1_2), (0, .ref o0)] [] M_16 n_16 0 0 (tm_Q tm_FT (tm_in w_TrustDeskModel_isThere_x) x9 T0 M0 n0 (fun r _ M => ∃ v : Int32, r = some (.int v) ∧ 0 ≤ v.toInt ∧ v.toInt ≤ 1 ∧ rI M o0)) := by
            intro k16
            induction k16 with
            | zero =>
              intro i4_16 i3_16 T_16 M_16 n_16 I_16 h_q0_16 iv0_16 iv1_16 iv2_16 iv3_16 iv4_16 iv5_16 iv6_16 iv7_16 iv8_16 kKR_16 kKN_16 hk16
              have := mz_hi i4_16
              have := kKR_16.1 15 _ _ rfl
              have := kKR_16.1 16 _ _ rfl
              have := kKR_16.1 19 _ _ rfl
              omega
            | succ k16 ih16 =>
              intro i4_16 i3_16 T_16 M_16 n_16 I_16 h_q0_16 iv0_16 iv1_16 iv2_16 iv3_16 iv4_16 iv5_16 iv6_16 iv7_16 iv8_16 kKR_16 kKN_16 hk16
              refine mv_iload d_TrustDeskModel_isThere_39 rfl ?_
              refine mv_aload_n d_TrustDeskModel_isThere_41 rfl rfl ?_
              obtain ⟨a18, q17, t_a18⟩ := tm_atR I_16 h_q0_16 (k := 26) rfl
              refine tr_getK q17 d_TrustDeskModel_isThere_42 f_TrustDeskModel_54_13 ?_
              refine mv_iload_n d_TrustDeskModel_isThere_45 rfl rfl ?_
              refine tr_ialdR (o := o0) (k := 26) I_16 q17 t_a18 (by decide) d_TrustDeskModel_isThere_46 (vp_in_iff.mpr (by have := kKR_16.1 15 _ _ rfl; have := kKR_16.1 16 _ _ rfl; have := kKR_16.1 19 _ _ rfl; omega)) (fun v19 e20 => ?_)
              have := kKR_16.a (k := 26) rfl (i2_2 : Int32).toNatClampNeg
              have := kKN_16 i2_2.toNatClampNeg (by rw [mz_nat9 (by have := kKR_16.1 15 _ _ rfl; have := kKR_16.1 16 _ _ rfl; have := kKR_16.1 19 _ _ rfl; omega)]; have := kKR_16.1 15 _ _ rfl; have := kKR_16.1 16 _ _ rfl; have := kKR_16.1 19 _ _ rfl; omega)
              have := mz_hi i4_16
              have := mz_hi v19
              refine mv_icmp_geZ (tgt := 95) (a := i4_16.toInt) (b := v19.toInt) d_TrustDeskModel_isThere_47 (by decide) rfl rfl (fun b21 => ?_) (fun b21 => ?_)
              · refine mv_iload_n d_TrustDeskModel_isThere_95 rfl rfl ?_
                have := mz_hi i1_2
                refine mv_if_neZ (tgt := 103) (a := i1_2.toInt) d_TrustDeskModel_isThere_96 (by decide) rfl (fun b22 => ?_) (fun b22 => ?_)
                · refine mv_iconst (v := 1) d_TrustDeskModel_isThere_103 (by decide) ?_
                  refine mv_goto (tgt := 108) d_TrustDeskModel_isThere_104 (by decide) ?_
                  refine mv_istore_n (lv' := [(1, .int 1), (4, .int i4_16), (3, .int i3_16), (2, .int i2_2), (0, .ref o0)]) d_TrustDeskModel_isThere_108 rfl (by decide) rfl ?_
                  refine mv_iinc (v := (i2_2 + 1)) (lv' := [(2, .int (i2_2 + 1)), (1, .int 1), (4, .int i4_16), (3, .int i3_16), (0, .ref o0)]) d_TrustDeskModel_isThere_109 rfl rfl (by decide) rfl ?_
                  refine mv_goto (tgt := 4) d_TrustDeskModel_isThere_112 (by decide) ?_
                  refine mv_locals (lv' := [(2, .int (i2_2 + 1)), (1, .int 1), (0, .ref o0)]) (by intro q hq; simp only [List.mem_cons, List.not_mem_nil, or_false] at hq; rcases hq with rfl | rfl | rfl <;> rfl) ?_
                  have b23 : (i2_2 + 1).toInt = i2_2.toInt + 1 := mz_addn 1 1 (by decide) (by have := mz_lo i2_2; omega) (by have := mz_hi i2_2; omega)
                  exact (ih2 (i2_2 + 1) 1 T_16 M_16 n_16 I_16 h_q0_16 (by have := kKR_16.1 15 _ _ rfl; have := kKR_16.1 16 _ _ rfl; have := kKR_16.1 19 _ _ rfl; first | omega | decide | exact fun h9 => absurd (by decide) h9) (by have := kKR_16.1 15 _ _ rfl; have := kKR_16.1 16 _ _ rfl; have := kKR_16.1 19 _ _ rfl; first | omega | decide | exact fun h9 => absurd (by decide) h9) (by have := kKR_16.1 15 _ _ rfl; have := kKR_16.1 16 _ _ rfl; have := kKR_16.1 19 _ _ rfl; first | omega | decide | exact fun h9 => absurd (by decide) h9) (by have := kKR_16.1 15 _ _ rfl; have := kKR_16.1 16 _ _ rfl; have := kKR_16.1 19 _ _ rfl; first | omega | decide | exact fun h9 => absurd (by decide) h9) (by have := kKR_16.1 15 _ _ rfl; have := kKR_16.1 16 _ _ rfl; have := kKR_16.1 19 _ _ rfl; first | omega | decide | exact fun h9 => absurd (by decide) h9) (by have := kKR_16.1 15 _ _ rfl; have := kKR_16.1 16 _ _ rfl; have := kKR_16.1 19 _ _ rfl; first | omega | decide | exact fun h9 => absurd (by decide) h9) kKR_16 kKN_16 (by have := kKR_16.1 15 _ _ rfl; have := kKR_16.1 16 _ _ rfl; have := kKR_16.1 19 _ _ rfl; omega))
                · refine mv_iload_n d_TrustDeskModel_isThere_99 rfl rfl ?_
                  have := mz_hi i3_16
                  refine mv_if_eqZ (tgt := 107) (a := i3_16.toInt) d_TrustDeskModel_isThere_100 (by decide) rfl (fun b24 => ?_) (fun b24 => ?_)
                  · refine mv_iconst (v := 0) d_TrustDeskModel_isThere_107 (by decide) ?_
                    refine mv_istore_n (lv' := [(1, .int 0), (4, .int i4_16), (3, .int i3_16), (2, .int i2_2), (0, .ref o0)]) d_TrustDeskModel_isThere_108 rfl (by decide) rfl ?_
                    refine mv_iinc (v := (i2_2 + 1)) (lv' := [(2, .int (i2_2 + 1)), (1, .int 0), (4, .int i4_16), (3, .int i3_16), (0, .ref o0)]) d_TrustDeskModel_isThere_109 rfl rfl (by decide) rfl ?_
                    refine mv_goto (tgt := 4) d_TrustDeskModel_isThere_112 (by decide) ?_
                    refine mv_locals (lv' := [(2, .int (i2_2 + 1)), (1, .int 0), (0, .ref o0)]) (by intro q hq; simp only [List.mem_cons, List.not_mem_nil, or_false] at hq; rcases hq with rfl | rfl | rfl <;> rfl) ?_
                    have b25 : (i2_2 + 1).toInt = i2_2.toInt + 1 := mz_addn 1 1 (by decide) (by have := mz_lo i2_2; omega) (by have := mz_hi i2_2; omega)
                    exact (ih2 (i2_2 + 1) 0 T_16 M_16 n_16 I_16 h_q0_16 (by have := kKR_16.1 15 _ _ rfl; have := kKR_16.1 16 _ _ rfl; have := kKR_16.1 19 _ _ rfl; first | omega | decide | exact fun h9 => absurd (by decide) h9) (by have := kKR_16.1 15 _ _ rfl; have := kKR_16.1 16 _ _ rfl; have := kKR_16.1 19 _ _ rfl; first | omega | decide | exact fun h9 => absurd (by decide) h9) (by have := kKR_16.1 15 _ _ rfl; have := kKR_16.1 16 _ _ rfl; have := kKR_16.1 19 _ _ rfl; first | omega | decide | exact fun h9 => absurd (by decide) h9) (by have := kKR_16.1 15 _ _ rfl; have := kKR_16.1 16 _ _ rfl; have := kKR_16.1 19 _ _ rfl; first | omega | decide | exact fun h9 => absurd (by decide) h9) (by have := kKR_16.1 15 _ _ rfl; have := kKR_16.1 16 _ _ rfl; have := kKR_16.1 19 _ _ rfl; first | omega | decide | exact fun h9 => absurd (by decide) h9) (by have := kKR_16.1 15 _ _ rfl; have := kKR_16.1 16 _ _ rfl; have := kKR_16.1 19 _ _ rfl; first | omega | decide | exact fun h9 => absurd (by decide) h9) kKR_16 kKN_16 (by have := kKR_16.1 15 _ _ rfl; have := kKR_16.1 16 _ _ rfl; have := kKR_16.1 19 _ _ rfl; omega))
                  · refine mv_iconst (v := 1) d_TrustDeskModel_isThere_103 (by decide) ?_
                    refine mv_goto (tgt := 108) d_TrustDeskModel_isThere_104 (by decide) ?_
                    refine mv_istore_n (lv' := [(1, .int 1), (4, .int i4_16), (3, .int i3_16), (2, .int i2_2), (0, .ref o0)]) d_TrustDeskModel_isThere_108 rfl (by decide) rfl ?_
                    refine mv_iinc (v := (i2_2 + 1)) (lv' := [(2, .int (i2_2 + 1)), (1, .int 1), (4, .int i4_16), (3, .int i3_16), (0, .ref o0)]) d_TrustDeskModel_isThere_109 rfl rfl (by decide) rfl ?_
                    refine mv_goto (tgt := 4) d_TrustDeskModel_isThere_112 (by decide) ?_
                    refine mv_locals (lv' := [(2, .int (i2_2 + 1)), (1, .int 1), (0, .ref o0)]) (by intro q hq; simp only [List.mem_cons, List.not_mem_nil, or_false] at hq; rcases hq with rfl | rfl | rfl <;> rfl) ?_
                    have b26 : (i2_2 + 1).toInt = i2_2.toInt + 1 := mz_addn 1 1 (by decide) (by have := mz_lo i2_2; omega) (by have := mz_hi i2_2; omega)
                    exact (ih2 (i2_2 + 1) 1 T_16 M_16 n_16 I_16 h_q0_16 (by have := kKR_16.1 15 _ _ rfl; have := kKR_16.1 16 _ _ rfl; have := kKR_16.1 19 _ _ rfl; first | omega | decide | exact fun h9 => absurd (by decide) h9) (by have := kKR_16.1 15 _ _ rfl; have := kKR_16.1 16 _ _ rfl; have := kKR_16.1 19 _ _ rfl; first | omega | decide | exact fun h9 => absurd (by decide) h9) (by have := kKR_16.1 15 _ _ rfl; have := kKR_16.1 16 _ _ rfl; have := kKR_16.1 19 _ _ rfl; first | omega | decide | exact fun h9 => absurd (by decide) h9) (by have := kKR_16.1 15 _ _ rfl; have := kKR_16.1 16 _ _ rfl; have := kKR_16.1 19 _ _ rfl; first | omega | decide | exact fun h9 => absurd (by decide) h9) (by have := kKR_16.1 15 _ _ rfl; have := kKR_16.1 16 _ _ rfl; have := kKR_16.1 19 _ _ rfl; first | omega | decide | exact fun h9 => absurd (by decide) h9) (by have := kKR_16.1 15 _ _ rfl; have := kKR_16.1 16 _ _ rfl; have := kKR_16.1 19 _ _ rfl; first | omega | decide | exact fun h9 => absurd (by decide) h9) kKR_16 kKN_16 (by have := kKR_16.1 15 _ _ rfl; have := kKR_16.1 16 _ _ rfl; have := kKR_16.1 19 _ _ rfl; omega))
              · refine mv_iload_n d_TrustDeskModel_isThere_50 rfl rfl ?_
                have := mz_hi i3_16
                refine mv_if_eqZ (tgt := 95) (a := i3_16.toInt) d_TrustDeskModel_isThere_51 (by decide) rfl (fun b27 => ?_) (fun b27 => ?_)
                · refine mv_iload_n d_TrustDeskModel_isThere_95 rfl rfl ?_
                  have := mz_hi i1_2
                  refine mv_if_neZ (tgt := 103) (a := i1_2.toInt) d_TrustDeskModel_isThere_96 (by decide) rfl (fun b28 => ?_) (fun b28 => ?_)
                  · refine mv_iconst (v := 1) d_TrustDeskModel_isThere_103 (by decide) ?_
                    refine mv_goto (tgt := 108) d_TrustDeskModel_isThere_104 (by decide) ?_
                    refine mv_istore_n (lv' := [(1, .int 1), (4, .int i4_16), (3, .int i3_16), (2, .int i2_2), (0, .ref o0)]) d_TrustDeskModel_isThere_108 rfl (by decide) rfl ?_
                    refine mv_iinc (v := (i2_2 + 1)) (lv' := [(2, .int (i2_2 + 1)), (1, .int 1), (4, .int i4_16), (3, .int i3_16), (0, .ref o0)]) d_TrustDeskModel_isThere_109 rfl rfl (by decide) rfl ?_
                    refine mv_goto (tgt := 4) d_TrustDeskModel_isThere_112 (by decide) ?_
                    refine mv_locals (lv' := [(2, .int (i2_2 + 1)), (1, .int 1), (0, .ref o0)]) (by intro q hq; simp only [List.mem_cons, List.not_mem_nil, or_false] at hq; rcases hq with rfl | rfl | rfl <;> rfl) ?_
                    have b29 : (i2_2 + 1).toInt = i2_2.toInt + 1 := mz_addn 1 1 (by decide) (by have := mz_lo i2_2; omega) (by have := mz_hi i2_2; omega)
                    exact (ih2 (i2_2 + 1) 1 T_16 M_16 n_16 I_16 h_q0_16 (by have := kKR_16.1 15 _ _ rfl; have := kKR_16.1 16 _ _ rfl; have := kKR_16.1 19 _ _ rfl; first | omega | decide | exact fun h9 => absurd (by decide) h9) (by have := kKR_16.1 15 _ _ rfl; have := kKR_16.1 16 _ _ rfl; have := kKR_16.1 19 _ _ rfl; first | omega | decide | exact fun h9 => absurd (by decide) h9) (by have := kKR_16.1 15 _ _ rfl; have := kKR_16.1 16 _ _ rfl; have := kKR_16.1 19 _ _ rfl; first | omega | decide | exact fun h9 => absurd (by decide) h9) (by have := kKR_16.1 15 _ _ rfl; have := kKR_16.1 16 _ _ rfl; have := kKR_16.1 19 _ _ rfl; first | omega | decide | exact fun h9 => absurd (by decide) h9) (by have := kKR_16.1 15 _ _ rfl; have := kKR_16.1 16 _ _ rfl; have := kKR_16.1 19 _ _ rfl; first | omega | decide | exact fun h9 => absurd (by decide) h9) (by have := kKR_16.1 15 _ _ rfl; have := kKR_16.1 16 _ _ rfl; have := kKR_16.1 19 _ _ rfl; first | omega | decide | exact fun h9 => absurd (by decide) h9) kKR_16 kKN_16 (by have := kKR_16.1 15 _ _ rfl; have := kKR_16.1 16 _ _ rfl; have := kKR_16.1 19 _ _ rfl; omega))
                  · refine mv_iload_n d_TrustDeskModel_isThere_99 rfl rfl ?_
                    have := mz_hi i3_16
                    refine mv_if_eqZ (tgt := 107) (a := i3_16.toInt) d_TrustDeskModel_isThere_100 (by decide) rfl (fun b30 => ?_) (fun b30 => absurd b30 (by omega))
                    refine mv_iconst (v := 0) d_TrustDeskModel_isThere_107 (by decide) ?_
                    refine mv_istore_n (lv' := [(1, .int 0), (4, .int i4_16), (3, .int i3_16), (2, .int i2_2), (0, .ref o0)]) d_TrustDeskModel_isThere_108 rfl (by decide) rfl ?_
                    refine mv_iinc (v := (i2_2 + 1)) (lv' := [(2, .int (i2_2 + 1)), (1, .int 0), (4, .int i4_16), (3, .int i3_16), (0, .ref o0)]) d_TrustDeskModel_isThere_109 rfl rfl (by decide) rfl ?_
                    refine mv_goto (tgt := 4) d_TrustDeskModel_isThere_112 (by decide) ?_
                    refine mv_locals (lv' := [(2, .int (i2_2 + 1)), (1, .int 0), (0, .ref o0)]) (by intro q hq; simp only [List.mem_cons, List.not_mem_nil, or_false] at hq; rcases hq with rfl | rfl | rfl <;> rfl) ?_
                    have b31 : (i2_2 + 1).toInt = i2_2.toInt + 1 := mz_addn 1 1 (by decide) (by have := mz_lo i2_2; omega) (by have := mz_hi i2_2; omega)
                    exact (ih2 (i2_2 + 1) 0 T_16 M_16 n_16 I_16 h_q0_16 (by have := kKR_16.1 15 _ _ rfl; have := kKR_16.1 16 _ _ rfl; have := kKR_16.1 19 _ _ rfl; first | omega | decide | exact fun h9 => absurd (by decide) h9) (by have := kKR_16.1 15 _ _ rfl; have := kKR_16.1 16 _ _ rfl; have := kKR_16.1 19 _ _ rfl; first | omega | decide | exact fun h9 => absurd (by decide) h9) (by have := kKR_16.1 15 _ _ rfl; have := kKR_16.1 16 _ _ rfl; have := kKR_16.1 19 _ _ rfl; first | omega | decide | exact fun h9 => absurd (by decide) h9) (by have := kKR_16.1 15 _ _ rfl; have := kKR_16.1 16 _ _ rfl; have := kKR_16.1 19 _ _ rfl; first | omega | decide | exact fun h9 => absurd (by decide) h9) (by have := kKR_16.1 15 _ _ rfl; have := kKR_16.1 16 _ _ rfl; have := kKR_16.1 19 _ _ rfl; first | omega | decide | exact fun h9 => absurd (by decide) h9) (by have := kKR_16.1 15 _ _ rfl; have := kKR_16.1 16 _ _ rfl; have := kKR_16.1 19 _ _ rfl; first | omega | decide | exact fun h9 => absurd (by decide) h9) kKR_16 kKN_16 (by have := kKR_16.1 15 _ _ rfl; have := kKR_16.1 16 _ _ rfl; have := kKR_16.1 19 _ _ rfl; omega))
                · refine mv_aload_n d_TrustDeskModel_isThere_54 rfl rfl ?_
                  obtain ⟨a33, q32, t_a33⟩ := tm_atR I_16 h_q0_16 (k := 13) rfl
                  refine tr_getK q32 d_TrustDeskModel_isThere_55 f_TrustDeskModel_44_13 ?_
                  refine mv_aload_n d_TrustDeskModel_isThere_58 rfl rfl ?_
                  obtain ⟨v35, q34⟩ := tm_atI I_16 h_q0_16 (k := 16) rfl
                  refine tr_getK q34 d_TrustDeskModel_isThere_59 f_TrustDeskModel_195_13 ?_
                  have := kKR_16.f (k := 16) q34 rfl
                  have := tm_rv q34
                  refine mv_iload d_TrustDeskModel_isThere_62 rfl ?_
                  refine mv_iadd d_TrustDeskModel_isThere_64 ?_
                  have b36 : (v35 + i4_16 : Int32).toInt = (v35.toInt + i4_16.toInt) := mz_add2 rfl rfl (by have := kKR_16.1 15 _ _ rfl; have := kKR_16.1 16 _ _ rfl; have := kKR_16.1 19 _ _ rfl; omega) (by have := kKR_16.1 15 _ _ rfl; have := kKR_16.1 16 _ _ rfl; have := kKR_16.1 19 _ _ rfl; omega)
                  refine tr_baldR (o := o0) (k := 13) I_16 q32 t_a33 (by decide) d_TrustDeskModel_isThere_65 (vp_in_iff.mpr (by have := kKR_16.1 15 _ _ rfl; have := kKR_16.1 16 _ _ rfl; have := kKR_16.1 19 _ _ rfl; omega)) (fun v37 e38 => ?_)
                  have := kKR_16.a (k := 13) rfl ((v35 + i4_16) : Int32).toNatClampNeg
                  refine mv_aload_n d_TrustDeskModel_isThere_66 rfl rfl ?_
                  refine tr_getK (k := 13) q32 d_TrustDeskModel_isThere_67 f_TrustDeskModel_44_13 ?_
                  refine mv_aload_n d_TrustDeskModel_isThere_70 rfl rfl ?_
                  obtain ⟨a40, q39, t_a40⟩ := tm_atR I_16 h_q0_16 (k := 25) rfl
                  refine tr_getK q39 d_TrustDeskModel_isThere_71 f_TrustDeskModel_51_13 ?_
                  refine mv_iload_n d_TrustDeskModel_isThere_74 rfl rfl ?_
                  refine tr_ialdR (o := o0) (k := 25) I_16 q39 t_a40 (by decide) d_TrustDeskModel_isThere_75 (vp_in_iff.mpr (by have := kKR_16.1 15 _ _ rfl; have := kKR_16.1 16 _ _ rfl; have := kKR_16.1 19 _ _ rfl; omega)) (fun v41 e42 => ?_)
                  have := kKR_16.a (k := 25) rfl (i2_2 : Int32).toNatClampNeg
                  have := kKN_16 i2_2.toNatClampNeg (by rw [mz_nat9 (by have := kKR_16.1 15 _ _ rfl; have := kKR_16.1 16 _ _ rfl; have := kKR_16.1 19 _ _ rfl; omega)]; have := kKR_16.1 15 _ _ rfl; have := kKR_16.1 16 _ _ rfl; have := kKR_16.1 19 _ _ rfl; omega)
                  refine mv_iload d_TrustDeskModel_isThere_76 rfl ?_
                  refine mv_iadd d_TrustDeskModel_isThere_78 ?_
                  have b43 : (v41 + i4_16 : Int32).toInt = (v41.toInt + i4_16.toInt) := mz_add2 rfl rfl (by have := kKR_16.1 15 _ _ rfl; have := kKR_16.1 16 _ _ rfl; have := kKR_16.1 19 _ _ rfl; omega) (by have := kKR_16.1 15 _ _ rfl; have := kKR_16.1 16 _ _ rfl; have := kKR_16.1 19 _ _ rfl; omega)
                  refine tr_baldR (o := o0) (k := 13) I_16 q32 t_a33 (by decide) d_TrustDeskModel_isThere_79 (vp_in_iff.mpr (by have := kKR_16.1 15 _ _ rfl; have := kKR_16.1 16 _ _ rfl; have := kKR_16.1 19 _ _ rfl; omega)) (fun v44 e45 => ?_)
                  have := kKR_16.a (k := 13) rfl ((v41 + i4_16) : Int32).toNatClampNeg
                  have := mz_hi v37
                  have := mz_hi v44
                  refine mv_icmp_neZ (tgt := 87) (a := v37.toInt) (b := v44.toInt) d_TrustDeskModel_isThere_80 (by decide) rfl rfl (fun b46 => ?_) (fun b46 => ?_)
                  · refine mv_iconst (v := 0) d_TrustDeskModel_isThere_87 (by decide) ?_
                    refine mv_istore_n (lv' := [(3, .int 0), (4, .int i4_16), (2, .int i2_2), (1, .int i1_2), (0, .ref o0)]) d_TrustDeskModel_isThere_88 rfl (by decide) rfl ?_
                    refine mv_iinc (v := (i4_16 + 1)) (lv' := [(4, .int (i4_16 + 1)), (3, .int 0), (2, .int i2_2), (1, .int i1_2), (0, .ref o0)]) d_TrustDeskModel_isThere_89 rfl rfl (by decide) rfl ?_
                    refine mv_goto (tgt := 39) d_TrustDeskModel_isThere_92 (by decide) ?_
                    have b47 : (i4_16 + 1).toInt = i4_16.toInt + 1 := mz_addn 1 1 (by decide) (by have := mz_lo i4_16; omega) (by have := mz_hi i4_16; omega)
                    exact (ih16 (i4_16 + 1) 0 T_16 M_16 n_16 I_16 h_q0_16 (by have := kKR_16.1 15 _ _ rfl; have := kKR_16.1 16 _ _ rfl; have := kKR_16.1 19 _ _ rfl; first | omega | decide | exact fun h9 => absurd (by decide) h9) (by have := kKR_16.1 15 _ _ rfl; have := kKR_16.1 16 _ _ rfl; have := kKR_16.1 19 _ _ rfl; first | omega | decide | exact fun h9 => absurd (by decide) h9) (by have := kKR_16.1 15 _ _ rfl; have := kKR_16.1 16 _ _ rfl; have := kKR_16.1 19 _ _ rfl; first | omega | decide | exact fun h9 => absurd (by decide) h9) (by have := kKR_16.1 15 _ _ rfl; have := kKR_16.1 16 _ _ rfl; have := kKR_16.1 19 _ _ rfl; first | omega | decide | exact fun h9 => absurd (by decide) h9) (by have := kKR_16.1 15 _ _ rfl; have := kKR_16.1 16 _ _ rfl; have := kKR_16.1 19 _ _ rfl; first | omega | decide | exact fun h9 => absurd (by decide) h9) (by have := kKR_16.1 15 _ _ rfl; have := kKR_16.1 16 _ _ rfl; have := kKR_16.1 19 _ _ rfl; first | omega | decide | exact fun h9 => absurd (by decide) h9) (by have := kKR_16.1 15 _ _ rfl; have := kKR_16.1 16 _ _ rfl; have := kKR_16.1 19 _ _ rfl; first | omega | decide | exact fun h9 => absurd (by decide) h9) (by have := kKR_16.1 15 _ _ rfl; have := kKR_16.1 16 _ _ rfl; have := kKR_16.1 19 _ _ rfl; first | omega | decide | exact fun h9 => absurd (by decide) h9) (by have := kKR_16.1 15 _ _ rfl; have := kKR_16.1 16 _ _ rfl; have := kKR_16.1 19 _ _ rfl; first | omega | decide | exact fun h9 => absurd (by decide) h9) kKR_16 kKN_16 (by have := kKR_16.1 15 _ _ rfl; have := kKR_16.1 16 _ _ rfl; have := kKR_16.1 19 _ _ rfl; omega))
                  · refine mv_iconst (v := 1) d_TrustDeskModel_isThere_83 (by decide) ?_
                    refine mv_goto (tgt := 88) d_TrustDeskModel_isThere_84 (by decide) ?_
                    refine mv_istore_n (lv' := [(3, .int 1), (4, .int i4_16), (2, .int i2_2), (1, .int i1_2), (0, .ref o0)]) d_TrustDeskModel_isThere_88 rfl (by decide) rfl ?_
                    refine mv_iinc (v := (i4_16 + 1)) (lv' := [(4, .int (i4_16 + 1)), (3, .int 1), (2, .int i2_2), (1, .int i1_2), (0, .ref o0)]) d_TrustDeskModel_isThere_89 rfl rfl (by decide) rfl ?_
                    refine mv_goto (tgt := 39) d_TrustDeskModel_isThere_92 (by decide) ?_
                    have b48 : (i4_16 + 1).toInt = i4_16.toInt + 1 := mz_addn 1 1 (by decide) (by have := mz_lo i4_16; omega) (by have := mz_hi i4_16; omega)
                    exact (ih16 (i4_16 + 1) 1 T_16 M_16 n_16 I_16 h_q0_16 (by have := kKR_16.1 15 _ _ rfl; have := kKR_16.1 16 _ _ rfl; have := kKR_16.1 19 _ _ rfl; first | omega | decide | exact fun h9 => absurd (by decide) h9) (by have := kKR_16.1 15 _ _ rfl; have := kKR_16.1 16 _ _ rfl; have := kKR_16.1 19 _ _ rfl; first | omega | decide | exact fun h9 => absurd (by decide) h9) (by have := kKR_16.1 15 _ _ rfl; have := kKR_16.1 16 _ _ rfl; have := kKR_16.1 19 _ _ rfl; first | omega | decide | exact fun h9 => absurd (by decide) h9) (by have := kKR_16.1 15 _ _ rfl; have := kKR_16.1 16 _ _ rfl; have := kKR_16.1 19 _ _ rfl; first | omega | decide | exact fun h9 => absurd (by decide) h9) (by have := kKR_16.1 15 _ _ rfl; have := kKR_16.1 16 _ _ rfl; have := kKR_16.1 19 _ _ rfl; first | omega | decide | exact fun h9 => absurd (by decide) h9) (by have := kKR_16.1 15 _ _ rfl; have := kKR_16.1 16 _ _ rfl; have := kKR_16.1 19 _ _ rfl; first | omega | decide | exact fun h9 => absurd (by decide) h9) (by have := kKR_16.1 15 _ _ rfl; have := kKR_16.1 16 _ _ rfl; have := kKR_16.1 19 _ _ rfl; first | omega | decide | exact fun h9 => absurd (by decide) h9) (by have := kKR_16.1 15 _ _ rfl; have := kKR_16.1 16 _ _ rfl; have := kKR_16.1 19 _ _ rfl; first | omega | decide | exact fun h9 => absurd (by decide) h9) (by have := kKR_16.1 15 _ _ rfl; have := kKR_16.1 16 _ _ rfl; have := kKR_16.1 19 _ _ rfl; first | omega | decide | exact fun h9 => absurd (by decide) h9) kKR_16 kKN_16 (by have := kKR_16.1 15 _ _ rfl; have := kKR_16.1 16 _ _ rfl; have := kKR_16.1 19 _ _ rfl; omega))
          exact mv_less (Nat.zero_le _) (Nat.zero_le _) (L39_16 4294967296 0 0 T_2 M_2 n_2 I_2 h_q0_2 (by have := kKR_2.1 15 _ _ rfl; have := kKR_2.1 16 _ _ rfl; have := kKR_2.1 19 _ _ rfl; first | omega | decide | exact fun h9 => absurd (by decide) h9) (by have := kKR_2.1 15 _ _ rfl; have := kKR_2.1 16 _ _ rfl; have := kKR_2.1 19 _ _ rfl; first | omega | decide | exact fun h9 => absurd (by decide) h9) (by have := kKR_2.1 15 _ _ rfl; have := kKR_2.1 16 _ _ rfl; have := kKR_2.1 19 _ _ rfl; first | omega | decide | exact fun h9 => absurd (by decide) h9) (by have := kKR_2.1 15 _ _ rfl; have := kKR_2.1 16 _ _ rfl; have := kKR_2.1 19 _ _ rfl; first | omega | decide | exact fun h9 => absurd (by decide) h9) (by have := kKR_2.1 15 _ _ rfl; have := kKR_2.1 16 _ _ rfl; have := kKR_2.1 19 _ _ rfl; first | omega | decide | exact fun h9 => absurd (by decide) h9) (by have := kKR_2.1 15 _ _ rfl; have := kKR_2.1 16 _ _ rfl; have := kKR_2.1 19 _ _ rfl; first | omega | decide | exact fun h9 => absurd (by decide) h9) (by have := kKR_2.1 15 _ _ rfl; have := kKR_2.1 16 _ _ rfl; have := kKR_2.1 19 _ _ rfl; first | omega | decide | exact fun h9 => absurd (by decide) h9) (by have := kKR_2.1 15 _ _ rfl; have := kKR_2.1 16 _ _ rfl; have := kKR_2.1 19 _ _ rfl; first | omega | decide | exact fun h9 => absurd (by decide) h9) (by have := kKR_2.1 15 _ _ rfl; have := kKR_2.1 16 _ _ rfl; have := kKR_2.1 19 _ _ rfl; first | omega | decide | exact fun h9 => absurd (by decide) h9) kKR_2 kKN_2 (by show (2147483647 - (0 : Int) : Int) < _; decide))
        · refine mv_iconst (v := 1) d_TrustDeskModel_isThere_30 (by decide) ?_
          refine mv_goto (tgt := 35) d_TrustDeskModel_isThere_31 (by decide) ?_
          refine mv_istore_n (lv' := [(3, .int 1), (2, .int i2_2), (1, .int i1_2), (0, .ref o0)]) d_TrustDeskModel_isThere_35 rfl (by decide) rfl ?_
          refine mv_iconst (v := 0) d_TrustDeskModel_isThere_36 (by decide) ?_
          refine mv_istore (lv' := [(4, .int 0), (3, .int 1), (2, .int i2_2), (1, .int i1_2), (0, .ref o0)]) d_TrustDeskModel_isThere_37 (by decide) rfl ?_
          have L39_49 : ∀ (k : Nat) (i4_49 : Int32) (i3_49 : Int32) (T_49 : tm_H) (M_49 : mj_M) (n_49 : Nat), tm_I tm_FT (tm_in w_TrustDeskModel_isThere_x) x9 T0 M0 n0 T_49 M_49 n_49 → T_49 o0 = some (0, 13, 0) → 0 ≤ i4_49.toInt → rv M_49 o0 15 = rv M0 o0 15 → rv M_49 o0 16 = rv M0 o0 16 → rv M_49 o0 24 = rv M0 o0 24 → 0 ≤ i2_2.toInt → i2_2.toInt < rv M_49 o0 24 → 0 ≤ i3_49.toInt → i3_49.toInt ≤ 1 → (i3_49.toInt ≠ 0 → ra M_49 o0 26 (i2_2).toNatClampNeg = rv M0 o0 15 - rv M0 o0 16) → (rI M_49 o0) → (nN M_49 o0) → 2147483647 - i4_49.toInt < (k : Int) → mj_V g l kY_TrustDeskModel_isThere d 39 [(4, .int i4_49), (3, .int i3_49), (2, .int i2_2), (1, .int i1_2), (0, .ref o0)] [] M_49 n_49 0 0 (tm_Q tm_FT (tm_in w_TrustDeskModel_isThere_x) x9 T0 M0 n0 (fun r _ M => ∃ v : Int32, r = some (.int v) ∧ 0 ≤ v.toInt ∧ v.toInt ≤ 1 ∧ rI M o0)) := by
            intro k49
            induction k49 with
            | zero =>
              intro i4_49 i3_49 T_49 M_49 n_49 I_49 h_q0_49 iv0_49 iv1_49 iv2_49 iv3_49 iv4_49 iv5_49 iv6_49 iv7_49 iv8_49 kKR_49 kKN_49 hk49
              have := mz_hi i4_49
              have := kKR_49.1 15 _ _ rfl
              have := kKR_49.1 16 _ _ rfl
              have := kKR_49.1 19 _ _ rfl
              omega
            | succ k49 ih49 =>
              intro i4_49 i3_49 T_49 M_49 n_49 I_49 h_q0_49 iv0_49 iv1_49 iv2_49 iv3_49 iv4_49 iv5_49 iv6_49 iv7_49 iv8_49 kKR_49 kKN_49 hk49
              refine mv_iload d_TrustDeskModel_isThere_39 rfl ?_
              refine mv_aload_n d_TrustDeskModel_isThere_41 rfl rfl ?_
              obtain ⟨a51, q50, t_a51⟩ := tm_atR I_49 h_q0_49 (k := 26) rfl
              refine tr_getK q50 d_TrustDeskModel_isThere_42 f_TrustDeskModel_54_13 ?_
              refine mv_iload_n d_TrustDeskModel_isThere_45 rfl rfl ?_
              refine tr_ialdR (o := o0) (k := 26) I_49 q50 t_a51 (by decide) d_TrustDeskModel_isThere_46 (vp_in_iff.mpr (by have := kKR_49.1 15 _ _ rfl; have := kKR_49.1 16 _ _ rfl; have := kKR_49.1 19 _ _ rfl; omega)) (fun v52 e53 => ?_)
              have := kKR_49.a (k := 26) rfl (i2_2 : Int32).toNatClampNeg
              have := kKN_49 i2_2.toNatClampNeg (by rw [mz_nat9 (by have := kKR_49.1 15 _ _ rfl; have := kKR_49.1 16 _ _ rfl; have := kKR_49.1 19 _ _ rfl; omega)]; have := kKR_49.1 15 _ _ rfl; have := kKR_49.1 16 _ _ rfl; have := kKR_49.1 19 _ _ rfl; omega)
              have := mz_hi i4_49
              have := mz_hi v52
              refine mv_icmp_geZ (tgt := 95) (a := i4_49.toInt) (b := v52.toInt) d_TrustDeskModel_isThere_47 (by decide) rfl rfl (fun b54 => ?_) (fun b54 => ?_)
              · refine mv_iload_n d_TrustDeskModel_isThere_95 rfl rfl ?_
                have := mz_hi i1_2
                refine mv_if_neZ (tgt := 103) (a := i1_2.toInt) d_TrustDeskModel_isThere_96 (by decide) rfl (fun b55 => ?_) (fun b55 => ?_)
                · refine mv_iconst (v := 1) d_TrustDeskModel_isThere_103 (by decide) ?_
                  refine mv_goto (tgt := 108) d_TrustDeskModel_isThere_104 (by decide) ?_
                  refine mv_istore_n (lv' := [(1, .int 1), (4, .int i4_49), (3, .int i3_49), (2, .int i2_2), (0, .ref o0)]) d_TrustDeskModel_isThere_108 rfl (by decide) rfl ?_
                  refine mv_iinc (v := (i2_2 + 1)) (lv' := [(2, .int (i2_2 + 1)), (1, .int 1), (4, .int i4_49), (3, .int i3_49), (0, .ref o0)]) d_TrustDeskModel_isThere_109 rfl rfl (by decide) rfl ?_
                  refine mv_goto (tgt := 4) d_TrustDeskModel_isThere_112 (by decide) ?_
                  refine mv_locals (lv' := [(2, .int (i2_2 + 1)), (1, .int 1), (0, .ref o0)]) (by intro q hq; simp only [List.mem_cons, List.not_mem_nil, or_false] at hq; rcases hq with rfl | rfl | rfl <;> rfl) ?_
                  have b56 : (i2_2 + 1).toInt = i2_2.toInt + 1 := mz_addn 1 1 (by decide) (by have := mz_lo i2_2; omega) (by have := mz_hi i2_2; omega)
                  exact (ih2 (i2_2 + 1) 1 T_49 M_49 n_49 I_49 h_q0_49 (by have := kKR_49.1 15 _ _ rfl; have := kKR_49.1 16 _ _ rfl; have := kKR_49.1 19 _ _ rfl; first | omega | decide | exact fun h9 => absurd (by decide) h9) (by have := kKR_49.1 15 _ _ rfl; have := kKR_49.1 16 _ _ rfl; have := kKR_49.1 19 _ _ rfl; first | omega | decide | exact fun h9 => absurd (by decide) h9) (by have := kKR_49.1 15 _ _ rfl; have := kKR_49.1 16 _ _ rfl; have := kKR_49.1 19 _ _ rfl; first | omega | decide | exact fun h9 => absurd (by decide) h9) (by have := kKR_49.1 15 _ _ rfl; have := kKR_49.1 16 _ _ rfl; have := kKR_49.1 19 _ _ rfl; first | omega | decide | exact fun h9 => absurd (by decide) h9) (by have := kKR_49.1 15 _ _ rfl; have := kKR_49.1 16 _ _ rfl; have := kKR_49.1 19 _ _ rfl; first | omega | decide | exact fun h9 => absurd (by decide) h9) (by have := kKR_49.1 15 _ _ rfl; have := kKR_49.1 16 _ _ rfl; have := kKR_49.1 19 _ _ rfl; first | omega | decide | exact fun h9 => absurd (by decide) h9) kKR_49 kKN_49 (by have := kKR_49.1 15 _ _ rfl; have := kKR_49.1 16 _ _ rfl; have := kKR_49.1 19 _ _ rfl; omega))
                · refine mv_iload_n d_TrustDeskModel_isThere_99 rfl rfl ?_
                  have := mz_hi i3_49
                  refine mv_if_eqZ (tgt := 107) (a := i3_49.toInt) d_TrustDeskModel_isThere_100 (by decide) rfl (fun b57 => ?_) (fun b57 => ?_)
                  · refine mv_iconst (v := 0) d_TrustDeskModel_isThere_107 (by decide) ?_
                    refine mv_istore_n (lv' := [(1, .int 0), (4, .int i4_49), (3, .int i3_49), (2, .int i2_2), (0, .ref o0)]) d_TrustDeskModel_isThere_108 rfl (by decide) rfl ?_
                    refine mv_iinc (v := (i2_2 + 1)) (lv' := [(2, .int (i2_2 + 1)), (1, .int 0), (4, .int i4_49), (3, .int i3_49), (0, .ref o0)]) d_TrustDeskModel_isThere_109 rfl rfl (by decide) rfl ?_
                    refine mv_goto (tgt := 4) d_TrustDeskModel_isThere_112 (by decide) ?_
                    refine mv_locals (lv' := [(2, .int (i2_2 + 1)), (1, .int 0), (0, .ref o0)]) (by intro q hq; simp only [List.mem_cons, List.not_mem_nil, or_false] at hq; rcases hq with rfl | rfl | rfl <;> rfl) ?_
                    have b58 : (i2_2 + 1).toInt = i2_2.toInt + 1 := mz_addn 1 1 (by decide) (by have := mz_lo i2_2; omega) (by have := mz_hi i2_2; omega)
                    exact (ih2 (i2_2 + 1) 0 T_49 M_49 n_49 I_49 h_q0_49 (by have := kKR_49.1 15 _ _ rfl; have := kKR_49.1 16 _ _ rfl; have := kKR_49.1 19 _ _ rfl; first | omega | decide | exact fun h9 => absurd (by decide) h9) (by have := kKR_49.1 15 _ _ rfl; have := kKR_49.1 16 _ _ rfl; have := kKR_49.1 19 _ _ rfl; first | omega | decide | exact fun h9 => absurd (by decide) h9) (by have := kKR_49.1 15 _ _ rfl; have := kKR_49.1 16 _ _ rfl; have := kKR_49.1 19 _ _ rfl; first | omega | decide | exact fun h9 => absurd (by decide) h9) (by have := kKR_49.1 15 _ _ rfl; have := kKR_49.1 16 _ _ rfl; have := kKR_49.1 19 _ _ rfl; first | omega | decide | exact fun h9 => absurd (by decide) h9) (by have := kKR_49.1 15 _ _ rfl; have := kKR_49.1 16 _ _ rfl; have := kKR_49.1 19 _ _ rfl; first | omega | decide | exact fun h9 => absurd (by decide) h9) (by have := kKR_49.1 15 _ _ rfl; have := kKR_49.1 16 _ _ rfl; have := kKR_49.1 19 _ _ rfl; first | omega | decide | exact fun h9 => absurd (by decide) h9) kKR_49 kKN_49 (by have := kKR_49.1 15 _ _ rfl; have := kKR_49.1 16 _ _ rfl; have := kKR_49.1 19 _ _ rfl; omega))
                  · refine mv_iconst (v := 1) d_TrustDeskModel_isThere_103 (by decide) ?_
                    refine mv_goto (tgt := 108) d_TrustDeskModel_isThere_104 (by decide) ?_
                    refine mv_istore_n (lv' := [(1, .int 1), (4, .int i4_49), (3, .int i3_49), (2, .int i2_2), (0, .ref o0)]) d_TrustDeskModel_isThere_108 rfl (by decide) rfl ?_
                    refine mv_iinc (v := (i2_2 + 1)) (lv' := [(2, .int (i2_2 + 1)), (1, .int 1), (4, .int i4_49), (3, .int i3_49), (0, .ref o0)]) d_TrustDeskModel_isThere_109 rfl rfl (by decide) rfl ?_
                    refine mv_goto (tgt := 4) d_TrustDeskModel_isThere_112 (by decide) ?_
                    refine mv_locals (lv' := [(2, .int (i2_2 + 1)), (1, .int 1), (0, .ref o0)]) (by intro q hq; simp only [List.mem_cons, List.not_mem_nil, or_false] at hq; rcases hq with rfl | rfl | rfl <;> rfl) ?_
                    have b59 : (i2_2 + 1).toInt = i2_2.toInt + 1 := mz_addn 1 1 (by decide) (by have := mz_lo i2_2; omega) (by have := mz_hi i2_2; omega)
                    exact (ih2 (i2_2 + 1) 1 T_49 M_49 n_49 I_49 h_q0_49 (by have := kKR_49.1 15 _ _ rfl; have := kKR_49.1 16 _ _ rfl; have := kKR_49.1 19 _ _ rfl; first | omega | decide | exact fun h9 => absurd (by decide) h9) (by have := kKR_49.1 15 _ _ rfl; have := kKR_49.1 16 _ _ rfl; have := kKR_49.1 19 _ _ rfl; first | omega | decide | exact fun h9 => absurd (by decide) h9) (by have := kKR_49.1 15 _ _ rfl; have := kKR_49.1 16 _ _ rfl; have := kKR_49.1 19 _ _ rfl; first | omega | decide | exact fun h9 => absurd (by decide) h9) (by have := kKR_49.1 15 _ _ rfl; have := kKR_49.1 16 _ _ rfl; have := kKR_49.1 19 _ _ rfl; first | omega | decide | exact fun h9 => absurd (by decide) h9) (by have := kKR_49.1 15 _ _ rfl; have := kKR_49.1 16 _ _ rfl; have := kKR_49.1 19 _ _ rfl; first | omega | decide | exact fun h9 => absurd (by decide) h9) (by have := kKR_49.1 15 _ _ rfl; have := kKR_49.1 16 _ _ rfl; have := kKR_49.1 19 _ _ rfl; first | omega | decide | exact fun h9 => absurd (by decide) h9) kKR_49 kKN_49 (by have := kKR_49.1 15 _ _ rfl; have := kKR_49.1 16 _ _ rfl; have := kKR_49.1 19 _ _ rfl; omega))
              · refine mv_iload_n d_TrustDeskModel_isThere_50 rfl rfl ?_
                have := mz_hi i3_49
                refine mv_if_eqZ (tgt := 95) (a := i3_49.toInt) d_TrustDeskModel_isThere_51 (by decide) rfl (fun b60 => ?_) (fun b60 => ?_)
                · refine mv_iload_n d_TrustDeskModel_isThere_95 rfl rfl ?_
                  have := mz_hi i1_2
                  refine mv_if_neZ (tgt := 103) (a := i1_2.toInt) d_TrustDeskModel_isThere_96 (by decide) rfl (fun b61 => ?_) (fun b61 => ?_)
                  · refine mv_iconst (v := 1) d_TrustDeskModel_isThere_103 (by decide) ?_
                    refine mv_goto (tgt := 108) d_TrustDeskModel_isThere_104 (by decide) ?_
                    refine mv_istore_n (lv' := [(1, .int 1), (4, .int i4_49), (3, .int i3_49), (2, .int i2_2), (0, .ref o0)]) d_TrustDeskModel_isThere_108 rfl (by decide) rfl ?_
                    refine mv_iinc (v := (i2_2 + 1)) (lv' := [(2, .int (i2_2 + 1)), (1, .int 1), (4, .int i4_49), (3, .int i3_49), (0, .ref o0)]) d_TrustDeskModel_isThere_109 rfl rfl (by decide) rfl ?_
                    refine mv_goto (tgt := 4) d_TrustDeskModel_isThere_112 (by decide) ?_
                    refine mv_locals (lv' := [(2, .int (i2_2 + 1)), (1, .int 1), (0, .ref o0)]) (by intro q hq; simp only [List.mem_cons, List.not_mem_nil, or_false] at hq; rcases hq with rfl | rfl | rfl <;> rfl) ?_
                    have b62 : (i2_2 + 1).toInt = i2_2.toInt + 1 := mz_addn 1 1 (by decide) (by have := mz_lo i2_2; omega) (by have := mz_hi i2_2; omega)
                    exact (ih2 (i2_2 + 1) 1 T_49 M_49 n_49 I_49 h_q0_49 (by have := kKR_49.1 15 _ _ rfl; have := kKR_49.1 16 _ _ rfl; have := kKR_49.1 19 _ _ rfl; first | omega | decide | exact fun h9 => absurd (by decide) h9) (by have := kKR_49.1 15 _ _ rfl; have := kKR_49.1 16 _ _ rfl; have := kKR_49.1 19 _ _ rfl; first | omega | decide | exact fun h9 => absurd (by decide) h9) (by have := kKR_49.1 15 _ _ rfl; have := kKR_49.1 16 _ _ rfl; have := kKR_49.1 19 _ _ rfl; first | omega | decide | exact fun h9 => absurd (by decide) h9) (by have := kKR_49.1 15 _ _ rfl; have := kKR_49.1 16 _ _ rfl; have := kKR_49.1 19 _ _ rfl; first | omega | decide | exact fun h9 => absurd (by decide) h9) (by have := kKR_49.1 15 _ _ rfl; have := kKR_49.1 16 _ _ rfl; have := kKR_49.1 19 _ _ rfl; first | omega | decide | exact fun h9 => absurd (by decide) h9) (by have := kKR_49.1 15 _ _ rfl; have := kKR_49.1 16 _ _ rfl; have := kKR_49.1 19 _ _ rfl; first | omega | decide | exact fun h9 => absurd (by decide) h9) kKR_49 kKN_49 (by have := kKR_49.1 15 _ _ rfl; have := kKR_49.1 16 _ _ rfl; have := kKR_49.1 19 _ _ rfl; omega))
                  · refine mv_iload_n d_TrustDeskModel_isThere_99 rfl rfl ?_
                    have := mz_hi i3_49
                    refine mv_if_eqZ (tgt := 107) (a := i3_49.toInt) d_TrustDeskModel_isThere_100 (by decide) rfl (fun b63 => ?_) (fun b63 => absurd b63 (by omega))
                    refine mv_iconst (v := 0) d_TrustDeskModel_isThere_107 (by decide) ?_
                    refine mv_istore_n (lv' := [(1, .int 0), (4, .int i4_49), (3, .int i3_49), (2, .int i2_2), (0, .ref o0)]) d_TrustDeskModel_isThere_108 rfl (by decide) rfl ?_
                    refine mv_iinc (v := (i2_2 + 1)) (lv' := [(2, .int (i2_2 + 1)), (1, .int 0), (4, .int i4_49), (3, .int i3_49), (0, .ref o0)]) d_TrustDeskModel_isThere_109 rfl rfl (by decide) rfl ?_
                    refine mv_goto (tgt := 4) d_TrustDeskModel_isThere_112 (by decide) ?_
                    refine mv_locals (lv' := [(2, .int (i2_2 + 1)), (1, .int 0), (0, .ref o0)]) (by intro q hq; simp only [List.mem_cons, List.not_mem_nil, or_false] at hq; rcases hq with rfl | rfl | rfl <;> rfl) ?_
                    have b64 : (i2_2 + 1).toInt = i2_2.toInt + 1 := mz_addn 1 1 (by decide) (by have := mz_lo i2_2; omega) (by have := mz_hi i2_2; omega)
                    exact (ih2 (i2_2 + 1) 0 T_49 M_49 n_49 I_49 h_q0_49 (by have := kKR_49.1 15 _ _ rfl; have := kKR_49.1 16 _ _ rfl; have := kKR_49.1 19 _ _ rfl; first | omega | decide | exact fun h9 => absurd (by decide) h9) (by have := kKR_49.1 15 _ _ rfl; have := kKR_49.1 16 _ _ rfl; have := kKR_49.1 19 _ _ rfl; first | omega | decide | exact fun h9 => absurd (by decide) h9) (by have := kKR_49.1 15 _ _ rfl; have := kKR_49.1 16 _ _ rfl; have := kKR_49.1 19 _ _ rfl; first | omega | decide | exact fun h9 => absurd (by decide) h9) (by have := kKR_49.1 15 _ _ rfl; have := kKR_49.1 16 _ _ rfl; have := kKR_49.1 19 _ _ rfl; first | omega | decide | exact fun h9 => absurd (by decide) h9) (by have := kKR_49.1 15 _ _ rfl; have := kKR_49.1 16 _ _ rfl; have := kKR_49.1 19 _ _ rfl; first | omega | decide | exact fun h9 => absurd (by decide) h9) (by have := kKR_49.1 15 _ _ rfl; have := kKR_49.1 16 _ _ rfl; have := kKR_49.1 19 _ _ rfl; first | omega | decide | exact fun h9 => absurd (by decide) h9) kKR_49 kKN_49 (by have := kKR_49.1 15 _ _ rfl; have := kKR_49.1 16 _ _ rfl; have := kKR_49.1 19 _ _ rfl; omega))
                · refine mv_aload_n d_TrustDeskModel_isThere_54 rfl rfl ?_
                  obtain ⟨a66, q65, t_a66⟩ := tm_atR I_49 h_q0_49 (k := 13) rfl
                  refine tr_getK q65 d_TrustDeskModel_isThere_55 f_TrustDeskModel_44_13 ?_
                  refine mv_aload_n d_TrustDeskModel_isThere_58 rfl rfl ?_
                  obtain ⟨v68, q67⟩ := tm_atI I_49 h_q0_49 (k := 16) rfl
                  refine tr_getK q67 d_TrustDeskModel_isThere_59 f_TrustDeskModel_195_13 ?_
                  have := kKR_49.f (k := 16) q67 rfl
                  have := tm_rv q67
                  refine mv_iload d_TrustDeskModel_isThere_62 rfl ?_
                  refine mv_iadd d_TrustDeskModel_isThere_64 ?_
                  have b69 : (v68 + i4_49 : Int32).toInt = (v68.toInt + i4_49.toInt) := mz_add2 rfl rfl (by have := kKR_49.1 15 _ _ rfl; have := kKR_49.1 16 _ _ rfl; have := kKR_49.1 19 _ _ rfl; omega) (by have := kKR_49.1 15 _ _ rfl; have := kKR_49.1 16 _ _ rfl; have := kKR_49.1 19 _ _ rfl; omega)
                  refine tr_baldR (o := o0) (k := 13) I_49 q65 t_a66 (by decide) d_TrustDeskModel_isThere_65 (vp_in_iff.mpr (by have := kKR_49.1 15 _ _ rfl; have := kKR_49.1 16 _ _ rfl; have := kKR_49.1 19 _ _ rfl; omega)) (fun v70 e71 => ?_)
                  have := kKR_49.a (k := 13) rfl ((v68 + i4_49) : Int32).toNatClampNeg
                  refine mv_aload_n d_TrustDeskModel_isThere_66 rfl rfl ?_
                  refine tr_getK (k := 13) q65 d_TrustDeskModel_isThere_67 f_TrustDeskModel_44_13 ?_
                  refine mv_aload_n d_TrustDeskModel_isThere_70 rfl rfl ?_
                  obtain ⟨a73, q72, t_a73⟩ := tm_atR I_49 h_q0_49 (k := 25) rfl
                  refine tr_getK q72 d_TrustDeskModel_isThere_71 f_TrustDeskModel_51_13 ?_
                  refine mv_iload_n d_TrustDeskModel_isThere_74 rfl rfl ?_
                  refine tr_ialdR (o := o0) (k := 25) I_49 q72 t_a73 (by decide) d_TrustDeskModel_isThere_75 (vp_in_iff.mpr (by have := kKR_49.1 15 _ _ rfl; have := kKR_49.1 16 _ _ rfl; have := kKR_49.1 19 _ _ rfl; omega)) (fun v74 e75 => ?_)
                  have := kKR_49.a (k := 25) rfl (i2_2 : Int32).toNatClampNeg
                  have := kKN_49 i2_2.toNatClampNeg (by rw [mz_nat9 (by have := kKR_49.1 15 _ _ rfl; have := kKR_49.1 16 _ _ rfl; have := kKR_49.1 19 _ _ rfl; omega)]; have := kKR_49.1 15 _ _ rfl; have := kKR_49.1 16 _ _ rfl; have := kKR_49.1 19 _ _ rfl; omega)
                  refine mv_iload d_TrustDeskModel_isThere_76 rfl ?_
                  refine mv_iadd d_TrustDeskModel_isThere_78 ?_
                  have b76 : (v74 + i4_49 : Int32).toInt = (v74.toInt + i4_49.toInt) := mz_add2 rfl rfl (by have := kKR_49.1 15 _ _ rfl; have := kKR_49.1 16 _ _ rfl; have := kKR_49.1 19 _ _ rfl; omega) (by have := kKR_49.1 15 _ _ rfl; have := kKR_49.1 16 _ _ rfl; have := kKR_49.1 19 _ _ rfl; omega)
                  refine tr_baldR (o := o0) (k := 13) I_49 q65 t_a66 (by decide) d_TrustDeskModel_isThere_79 (vp_in_iff.mpr (by have := kKR_49.1 15 _ _ rfl; have := kKR_49.1 16 _ _ rfl; have := kKR_49.1 19 _ _ rfl; omega)) (fun v77 e78 => ?_)
                  have := kKR_49.a (k := 13) rfl ((v74 + i4_49) : Int32).toNatClampNeg
                  have := mz_hi v70
                  have := mz_hi v77
                  refine mv_icmp_neZ (tgt := 87) (a := v70.toInt) (b := v77.toInt) d_TrustDeskModel_isThere_80 (by decide) rfl rfl (fun b79 => ?_) (fun b79 => ?_)
                  · refine mv_iconst (v := 0) d_TrustDeskModel_isThere_87 (by decide) ?_
                    refine mv_istore_n (lv' := [(3, .int 0), (4, .int i4_49), (2, .int i2_2), (1, .int i1_2), (0, .ref o0)]) d_TrustDeskModel_isThere_88 rfl (by decide) rfl ?_
                    refine mv_iinc (v := (i4_49 + 1)) (lv' := [(4, .int (i4_49 + 1)), (3, .int 0), (2, .int i2_2), (1, .int i1_2), (0, .ref o0)]) d_TrustDeskModel_isThere_89 rfl rfl (by decide) rfl ?_
                    refine mv_goto (tgt := 39) d_TrustDeskModel_isThere_92 (by decide) ?_
                    have b80 : (i4_49 + 1).toInt = i4_49.toInt + 1 := mz_addn 1 1 (by decide) (by have := mz_lo i4_49; omega) (by have := mz_hi i4_49; omega)
                    exact (ih49 (i4_49 + 1) 0 T_49 M_49 n_49 I_49 h_q0_49 (by have := kKR_49.1 15 _ _ rfl; have := kKR_49.1 16 _ _ rfl; have := kKR_49.1 19 _ _ rfl; first | omega | decide | exact fun h9 => absurd (by decide) h9) (by have := kKR_49.1 15 _ _ rfl; have := kKR_49.1 16 _ _ rfl; have := kKR_49.1 19 _ _ rfl; first | omega | decide | exact fun h9 => absurd (by decide) h9) (by have := kKR_49.1 15 _ _ rfl; have := kKR_49.1 16 _ _ rfl; have := kKR_49.1 19 _ _ rfl; first | omega | decide | exact fun h9 => absurd (by decide) h9) (by have := kKR_49.1 15 _ _ rfl; have := kKR_49.1 16 _ _ rfl; have := kKR_49.1 19 _ _ rfl; first | omega | decide | exact fun h9 => absurd (by decide) h9) (by have := kKR_49.1 15 _ _ rfl; have := kKR_49.1 16 _ _ rfl; have := kKR_49.1 19 _ _ rfl; first | omega | decide | exact fun h9 => absurd (by decide) h9) (by have := kKR_49.1 15 _ _ rfl; have := kKR_49.1 16 _ _ rfl; have := kKR_49.1 19 _ _ rfl; first | omega | decide | exact fun h9 => absurd (by decide) h9) (by have := kKR_49.1 15 _ _ rfl; have := kKR_49.1 16 _ _ rfl; have := kKR_49.1 19 _ _ rfl; first | omega | decide | exact fun h9 => absurd (by decide) h9) (by have := kKR_49.1 15 _ _ rfl; have := kKR_49.1 16 _ _ rfl; have := kKR_49.1 19 _ _ rfl; first | omega | decide | exact fun h9 => absurd (by decide) h9) (by have := kKR_49.1 15 _ _ rfl; have := kKR_49.1 16 _ _ rfl; have := kKR_49.1 19 _ _ rfl; first | omega | decide | exact fun h9 => absurd (by decide) h9) kKR_49 kKN_49 (by have := kKR_49.1 15 _ _ rfl; have := kKR_49.1 16 _ _ rfl; have := kKR_49.1 19 _ _ rfl; omega))
                  · refine mv_iconst (v := 1) d_TrustDeskModel_isThere_83 (by decide) ?_
                    refine mv_goto (tgt := 88) d_TrustDeskModel_isThere_84 (by decide) ?_
                    refine mv_istore_n (lv' := [(3, .int 1), (4, .int i4_49), (2, .int i2_2), (1, .int i1_2), (0, .ref o0)]) d_TrustDeskModel_isThere_88 rfl (by decide) rfl ?_
                    refine mv_iinc (v := (i4_49 + 1)) (lv' := [(4, .int (i4_49 + 1)), (3, .int 1), (2, .int i2_2), (1, .int i1_2), (0, .ref o0)]) d_TrustDeskModel_isThere_89 rfl rfl (by decide) rfl ?_
                    refine mv_goto (tgt := 39) d_TrustDeskModel_isThere_92 (by decide) ?_
                    have b81 : (i4_49 + 1).toInt = i4_49.toInt + 1 := mz_addn 1 1 (by decide) (by have := mz_lo i4_49; omega) (by have := mz_hi i4_49; omega)
                    exact (ih49 (i4_49 + 1) 1 T_49 M_49 n_49 I_49 h_q0_49 (by have := kKR_49.1 15 _ _ rfl; have := kKR_49.1 16 _ _ rfl; have := kKR_49.1 19 _ _ rfl; first | omega | decide | exact fun h9 => absurd (by decide) h9) (by have := kKR_49.1 15 _ _ rfl; have := kKR_49.1 16 _ _ rfl; have := kKR_49.1 19 _ _ rfl; first | omega | decide | exact fun h9 => absurd (by decide) h9) (by have := kKR_49.1 15 _ _ rfl; have := kKR_49.1 16 _ _ rfl; have := kKR_49.1 19 _ _ rfl; first | omega | decide | exact fun h9 => absurd (by decide) h9) (by have := kKR_49.1 15 _ _ rfl; have := kKR_49.1 16 _ _ rfl; have := kKR_49.1 19 _ _ rfl; first | omega | decide | exact fun h9 => absurd (by decide) h9) (by have := kKR_49.1 15 _ _ rfl; have := kKR_49.1 16 _ _ rfl; have := kKR_49.1 19 _ _ rfl; first | omega | decide | exact fun h9 => absurd (by decide) h9) (by have := kKR_49.1 15 _ _ rfl; have := kKR_49.1 16 _ _ rfl; have := kKR_49.1 19 _ _ rfl; first | omega | decide | exact fun h9 => absurd (by decide) h9) (by have := kKR_49.1 15 _ _ rfl; have := kKR_49.1 16 _ _ rfl; have := kKR_49.1 19 _ _ rfl; first | omega | decide | exact fun h9 => absurd (by decide) h9) (by have := kKR_49.1 15 _ _ rfl; have := kKR_49.1 16 _ _ rfl; have := kKR_49.1 19 _ _ rfl; first | omega | decide | exact fun h9 => absurd (by decide) h9) (by have := kKR_49.1 15 _ _ rfl; have := kKR_49.1 16 _ _ rfl; have := kKR_49.1 19 _ _ rfl; first | omega | decide | exact fun h9 => absurd (by decide) h9) kKR_49 kKN_49 (by have := kKR_49.1 15 _ _ rfl; have := kKR_49.1 16 _ _ rfl; have := kKR_49.1 19 _ _ rfl; omega))
          exact mv_less (Nat.zero_le _) (Nat.zero_le _) (L39_49 4294967296 0 1 T_2 M_2 n_2 I_2 h_q0_2 (by have := kKR_2.1 15 _ _ rfl; have := kKR_2.1 16 _ _ rfl; have := kKR_2.1 19 _ _ rfl; first | omega | decide | exact fun h9 => absurd (by decide) h9) (by have := kKR_2.1 15 _ _ rfl; have := kKR_2.1 16 _ _ rfl; have := kKR_2.1 19 _ _ rfl; first | omega | decide | exact fun h9 => absurd (by decide) h9) (by have := kKR_2.1 15 _ _ rfl; have := kKR_2.1 16 _ _ rfl; have := kKR_2.1 19 _ _ rfl; first | omega | decide | exact fun h9 => absurd (by decide) h9) (by have := kKR_2.1 15 _ _ rfl; have := kKR_2.1 16 _ _ rfl; have := kKR_2.1 19 _ _ rfl; first | omega | decide | exact fun h9 => absurd (by decide) h9) (by have := kKR_2.1 15 _ _ rfl; have := kKR_2.1 16 _ _ rfl; have := kKR_2.1 19 _ _ rfl; first | omega | decide | exact fun h9 => absurd (by decide) h9) (by have := kKR_2.1 15 _ _ rfl; have := kKR_2.1 16 _ _ rfl; have := kKR_2.1 19 _ _ rfl; first | omega | decide | exact fun h9 => absurd (by decide) h9) (by have := kKR_2.1 15 _ _ rfl; have := kKR_2.1 16 _ _ rfl; have := kKR_2.1 19 _ _ rfl; first | omega | decide | exact fun h9 => absurd (by decide) h9) (by have := kKR_2.1 15 _ _ rfl; have := kKR_2.1 16 _ _ rfl; have := kKR_2.1 19 _ _ rfl; first | omega | decide | exact fun h9 => absurd (by decide) h9) (by have := kKR_2.1 15 _ _ rfl; have := kKR_2.1 16 _ _ rfl; have := kKR_2.1 19 _ _ rfl; first | omega | decide | exact fun h9 => absurd (by decide) h9) kKR_2 kKN_2 (by show (2147483647 - (0 : Int) : Int) < _; decide))
  exact mv_less (Nat.zero_le _) (Nat.zero_le _) (L4_2 4294967296 0 0 T0 M0 n0 I0 h_o0 (by have := yR.1 15 _ _ rfl; have := yR.1 16 _ _ rfl; have := yR.1 19 _ _ rfl; first | omega | decide | exact fun h9 => absurd (by decide) h9) (by have := yR.1 15 _ _ rfl; have := yR.1 16 _ _ rfl; have := yR.1 19 _ _ rfl; first | omega | decide | exact fun h9 => absurd (by decide) h9) (by have := yR.1 15 _ _ rfl; have := yR.1 16 _ _ rfl; have := yR.1 19 _ _ rfl; first | omega | decide | exact fun h9 => absurd (by decide) h9) (by have := yR.1 15 _ _ rfl; have := yR.1 16 _ _ rfl; have := yR.1 19 _ _ rfl; first | omega | decide | exact fun h9 => absurd (by decide) h9) (by have := yR.1 15 _ _ rfl; have := yR.1 16 _ _ rfl; have := yR.1 19 _ _ rfl; first | omega | decide | exact fun h9 => absurd (by decide) h9) (by have := yR.1 15 _ _ rfl; have := yR.1 16 _ _ rfl; have := yR.1 19 _ _ rfl; first | omega | decide | exact fun h9 => absurd (by decide) h9) yR K1 (by show (2147483647 - (0 : Int) : Int) < _; decide))
abbrev kY_TrustDeskModel_starts : mj_Y := (⟨"TrustDeskModel", "starts", "(Z)V"⟩, prog_14_method_41_code, 2, (Option.none : Option Jvm.ClassFile.FieldType))
theorem d_TrustDeskModel_starts_0 : decode kY_TrustDeskModel_starts.2.1 0 = .ok (.aload_n 0, 1) := by decide +kernel
theorem d_TrustDeskModel_starts_1 : decode kY_TrustDeskModel_starts.2.1 1 = .ok (.iload_n 1, 1) := by decide +kernel
theorem d_TrustDeskModel_starts_2 : decode kY_TrustDeskModel_starts.2.1 2 = .ok (.putfield 267, 3) := by decide +kernel
theorem p_TrustDeskModel_267_13 : mj_fp "TrustDeskModel" 267 13 23 (kt_TrustDeskModel 23) false := ⟨kR_TrustDeskModel, kF_TrustDeskModel, 72, "TrustDeskModel", kt_TrustDeskModel, rfl, kg_13, by decide, (mj_in1 (List.mem_of_getElem? (i := 1409) (by decide +kernel)) rfl), Or.inl rfl, kto_TrustDeskModel, kn_TrustDeskModel, rfl, rfl, fun h => by cases h⟩
theorem d_TrustDeskModel_starts_5 : decode kY_TrustDeskModel_starts.2.1 5 = .ok (.aload_n 0, 1) := by decide +kernel
theorem d_TrustDeskModel_starts_6 : decode kY_TrustDeskModel_starts.2.1 6 = .ok (.iconst 0, 1) := by decide +kernel
theorem d_TrustDeskModel_starts_7 : decode kY_TrustDeskModel_starts.2.1 7 = .ok (.putfield 224, 3) := by decide +kernel
theorem d_TrustDeskModel_starts_10 : decode kY_TrustDeskModel_starts.2.1 10 = .ok (.aload_n 0, 1) := by decide +kernel
theorem d_TrustDeskModel_starts_11 : decode kY_TrustDeskModel_starts.2.1 11 = .ok (.iconst 0, 1) := by decide +kernel
theorem d_TrustDeskModel_starts_12 : decode kY_TrustDeskModel_starts.2.1 12 = .ok (.putfield 192, 3) := by decide +kernel
theorem d_TrustDeskModel_starts_15 : decode kY_TrustDeskModel_starts.2.1 15 = .ok (.aload_n 0, 1) := by decide +kernel
theorem d_TrustDeskModel_starts_16 : decode kY_TrustDeskModel_starts.2.1 16 = .ok (.iconst 0, 1) := by decide +kernel
theorem d_TrustDeskModel_starts_17 : decode kY_TrustDeskModel_starts.2.1 17 = .ok (.putfield 276, 3) := by decide +kernel
theorem d_TrustDeskModel_starts_20 : decode kY_TrustDeskModel_starts.2.1 20 = .ok (.aload_n 0, 1) := by decide +kernel
theorem d_TrustDeskModel_starts_21 : decode kY_TrustDeskModel_starts.2.1 21 = .ok (.iconst 0, 1) := by decide +kernel
theorem d_TrustDeskModel_starts_22 : decode kY_TrustDeskModel_starts.2.1 22 = .ok (.putfield 321, 3) := by decide +kernel
theorem p_TrustDeskModel_321_13 : mj_fp "TrustDeskModel" 321 13 24 (kt_TrustDeskModel 24) false := ⟨kR_TrustDeskModel, kF_TrustDeskModel, 72, "TrustDeskModel", kt_TrustDeskModel, rfl, kg_13, by decide, (mj_in1 (List.mem_of_getElem? (i := 1410) (by decide +kernel)) rfl), Or.inl rfl, kto_TrustDeskModel, kn_TrustDeskModel, rfl, rfl, fun h => by cases h⟩
theorem d_TrustDeskModel_starts_25 : decode kY_TrustDeskModel_starts.2.1 25 = .ok (.aload_n 0, 1) := by decide +kernel
theorem d_TrustDeskModel_starts_26 : decode kY_TrustDeskModel_starts.2.1 26 = .ok (.getfield 20, 3) := by decide +kernel
theorem d_TrustDeskModel_starts_29 : decode kY_TrustDeskModel_starts.2.1 29 = .ok (.bipush 44, 2) := by decide +kernel
theorem d_TrustDeskModel_starts_31 : decode kY_TrustDeskModel_starts.2.1 31 = .ok (.iconst 0, 1) := by decide +kernel
theorem d_TrustDeskModel_starts_32 : decode kY_TrustDeskModel_starts.2.1 32 = .ok (.iastore, 1) := by decide +kernel
theorem d_TrustDeskModel_starts_33 : decode kY_TrustDeskModel_starts.2.1 33 = .ok (.aload_n 0, 1) := by decide +kernel
theorem d_TrustDeskModel_starts_34 : decode kY_TrustDeskModel_starts.2.1 34 = .ok (.getfield 23, 3) := by decide +kernel
theorem d_TrustDeskModel_starts_37 : decode kY_TrustDeskModel_starts.2.1 37 = .ok (.bipush 44, 2) := by decide +kernel
theorem d_TrustDeskModel_starts_39 : decode kY_TrustDeskModel_starts.2.1 39 = .ok (.iconst 0, 1) := by decide +kernel
theorem d_TrustDeskModel_starts_40 : decode kY_TrustDeskModel_starts.2.1 40 = .ok (.iastore, 1) := by decide +kernel
theorem d_TrustDeskModel_starts_41 : decode kY_TrustDeskModel_starts.2.1 41 = .ok (.aload_n 0, 1) := by decide +kernel
theorem d_TrustDeskModel_starts_42 : decode kY_TrustDeskModel_starts.2.1 42 = .ok (.invokevirtual 237, 3) := by decide +kernel
theorem d_TrustDeskModel_starts_45 : decode kY_TrustDeskModel_starts.2.1 45 = .ok (.return_, 1) := by decide +kernel
def w_TrustDeskModel_starts_x : List Nat := [1315, 1316, 1317, 1318, 1319, 1322, 1323, 1324, 20005, 20006]
theorem tc_TrustDeskModel_starts_x {g : mj_G} {l : Launch} {d : Nat} {T0 : tm_H} {M0 : mj_M} {n0 x9 : Nat} {o0 : Nat} {x1 : Int32} (h_o0 : T0 o0 = some (0, 13, 0)) (hn0 : 0 ≤ x1.toInt ∧ x1.toInt ≤ 1) (yR : rI M0 o0) (I0 : tm_I tm_FT (tm_in w_TrustDeskModel_starts_x) x9 T0 M0 n0 T0 M0 n0) : mj_Met g l kY_TrustDeskModel_starts (d + 2) [.ref o0, .int x1] M0 n0 0 0 (tm_Q tm_FT (tm_in w_TrustDeskModel_starts_x) x9 T0 M0 n0 (fun r _ M => r = none ∧ rI M o0 ∧ (rT M o0) ∧ (rv M o0 19 = 0) ∧ (rv M o0 22 = 0) ∧ (rv M o0 24 = 0) ∧ (ra M o0 5 44 = 0) ∧ (ra M o0 6 44 = 0))) := by
  refine mj_enter (by decide) (Nat.le_of_ble_eq_true rfl) ?_
  refine mv_aload_n d_TrustDeskModel_starts_0 rfl rfl ?_
  refine mv_iload_n d_TrustDeskModel_starts_1 rfl rfl ?_
  refine tr_putR (k := 23) I0 yR h_o0 rfl ⟨_, rfl⟩ (fun _ h => by cases h) rfl (fun lo hi h => by cases h) (Or.inl (by decide)) d_TrustDeskModel_starts_2 p_TrustDeskModel_267_13 (mz_nb (by omega) (by omega)) (mz_fz (by omega) (by omega)) (fun M1 I2 q3 K4 R5 A6 V7 => ?_)
  have := V7 15 (by decide)
  have := V7 16 (by decide)
  have := V7 17 (by decide)
  have := V7 19 (by decide)
  have := V7 22 (by decide)
  have := V7 24 (by decide)
  have := A6 5 (by decide) 44
  have := A6 6 (by decide) 44
  refine mv_aload_n d_TrustDeskModel_starts_5 rfl rfl ?_
  refine mv_iconst (v := 0) d_TrustDeskModel_starts_6 (by decide) ?_
  refine tr_putR (k := 19) I2 R5 h_o0 rfl ⟨_, rfl⟩ (fun _ h => by cases h) rfl (fun lo hi h => by cases h; exact (by decide)) (Or.inl (by decide)) d_TrustDeskModel_starts_7 p_TrustDeskModel_224_13 rfl rfl (fun M8 I9 q10 K11 R12 A13 V14 => ?_)
  have := V14 15 (by decide)
  have := V14 16 (by decide)
  have := V14 17 (by decide)
  have := V14 22 (by decide)
  have := V14 24 (by decide)
  have : rv M8 o0 19 = 0 := tm_rv q10
  have := A13 5 (by decide) 44
  have := A13 6 (by decide) 44
  refine mv_aload_n d_TrustDeskModel_starts_10 rfl rfl ?_
  refine mv_iconst (v := 0) d_TrustDeskModel_starts_11 (by decide) ?_
  refine tr_putR (k := 15) I9 R12 h_o0 rfl ⟨_, rfl⟩ (fun _ h => by cases h) rfl (fun lo hi h => by cases h; exact (by decide)) (Or.inl (by decide)) d_TrustDeskModel_starts_12 p_TrustDeskModel_192_13 rfl rfl (fun M15 I16 q17 K18 R19 A20 V21 => ?_)
  have := V21 16 (by decide)
  have := V21 17 (by decide)
  have := V21 19 (by decide)
  have := V21 22 (by decide)
  have := V21 24 (by decide)
  have : rv M15 o0 15 = 0 := tm_rv q17
  have := A20 5 (by decide) 44
  have := A20 6 (by decide) 44
  refine mv_aload_n d_TrustDeskModel_starts_15 rfl rfl ?_
  refine mv_iconst (v := 0) d_TrustDeskModel_starts_16 (by decide) ?_
  refine tr_putR (k := 22) I16 R19 h_o0 rfl ⟨_, rfl⟩ (fun _ h => by cases h) rfl (fun lo hi h => by cases h) (Or.inl (by decide)) d_TrustDeskModel_starts_17 p_TrustDeskModel_276_13 rfl rfl (fun M22 I23 q24 K25 R26 A27 V28 => ?_)
  have := V28 15 (by decide)
  have := V28 16 (by decide)
  have := V28 17 (by decide)
  have := V28 19 (by decide)
  have := V28 24 (by decide)
  have : rv M22 o0 22 = 0 := tm_rv q24
  have := A27 5 (by decide) 44
  have := A27 6 (by decide) 44
  refine mv_aload_n d_TrustDeskModel_starts_20 rfl rfl ?_
  refine mv_iconst (v := 0) d_TrustDeskModel_starts_21 (by decide) ?_
  refine tr_putR (k := 24) I23 R26 h_o0 rfl ⟨_, rfl⟩ (fun _ h => by cases h) rfl (fun lo hi h => by cases h; exact (by decide)) (Or.inl (by decide)) d_TrustDeskModel_starts_22 p_TrustDeskModel_321_13 rfl rfl (fun M29 I30 q31 K32 R33 A34 V35 => ?_)
  have := V35 15 (by decide)
  have := V35 16 (by decide)
  have := V35 17 (by decide)
  have := V35 19 (by decide)
  have := V35 22 (by decide)
  have : rv M29 o0 24 = 0 := tm_rv q31
  have := A34 5 (by decide) 44
  have := A34 6 (by decide) 44
  refine mv_aload_n d_TrustDeskModel_starts_25 rfl rfl ?_
  obtain ⟨a37, q36, t_a37⟩ := tm_atR I30 h_o0 (k := 5) rfl
  refine tr_getK q36 d_TrustDeskModel_starts_26 f_TrustDeskModel_20_13 ?_
  refine mv_bipush (v := 44) d_TrustDeskModel_starts_29 (by decide) ?_
  refine mv_iconst (v := 0) d_TrustDeskModel_starts_31 (by decide) ?_
  refine tr_iastR (k := 5) I30 R33 (I30.up h_o0) q36 t_a37 (by decide) (by decide) (fun lo hi h => by cases h; exact (by decide)) (Or.inl (by decide)) d_TrustDeskModel_starts_32 (by unfold vp_in; decide) (fun M38 I39 K40 R41 E42 A43 V44 => ?_)
  have := V44 15
  have := V44 16
  have := V44 17
  have := V44 19
  have := V44 22
  have := V44 24
  have : ra M38 o0 5 44 = 0 := (E42 44).trans (if_pos (by decide))
  have := A43 6 (by decide) rfl 44
  refine mv_aload_n d_TrustDeskModel_starts_33 rfl rfl ?_
  obtain ⟨a46, q45, t_a46⟩ := tm_atR I39 h_o0 (k := 6) rfl
  refine tr_getK q45 d_TrustDeskModel_starts_34 f_TrustDeskModel_23_13 ?_
  refine mv_bipush (v := 44) d_TrustDeskModel_starts_37 (by decide) ?_
  refine mv_iconst (v := 0) d_TrustDeskModel_starts_39 (by decide) ?_
  refine tr_iastR (k := 6) I39 R41 (I39.up h_o0) q45 t_a46 (by decide) (by decide) (fun lo hi h => by cases h; exact (by decide)) (Or.inl (by decide)) d_TrustDeskModel_starts_40 (by unfold vp_in; decide) (fun M47 I48 K49 R50 E51 A52 V53 => ?_)
  have := V53 15
  have := V53 16
  have := V53 17
  have := V53 19
  have := V53 22
  have := V53 24
  have := A52 5 (by decide) rfl 44
  have : ra M47 o0 6 44 = 0 := (E51 44).trans (if_pos (by decide))
  refine mv_aload_n d_TrustDeskModel_starts_41 rfl rfl ?_
  obtain ⟨_, b60, -⟩ := I48.1 _ _ h_o0
  refine mv_callV (kc' := 0) (ks' := 0) (As := []) (st9 := [.ref o0]) d_TrustDeskModel_starts_42 lV_TrustDeskModel_237 b60 rfl (tc_TrustDeskModel_next_x (d := d) (x9 := x9) (o0 := o0) h_o0 R50 I48.start) rfl (Nat.le_of_ble_eq_true rfl) (Nat.le_of_ble_eq_true rfl) (Nat.le_of_ble_eq_true rfl) (hst := rfl) (fun b54r M55 n56 b54 => ?_)
  obtain ⟨T57, J58, rfl, R61, f62, f63⟩ := b54
  have I59 := I48.call J58 (tm_sub (by decide)) (Or.inl rfl)
  have t64 := J58.up h_o0
  have := (rv_c I48 J58 (I48.up h_o0) (k := 19) rfl)
  have := (rv_c I48 J58 (I48.up h_o0) (k := 22) rfl)
  have := (rv_c I48 J58 (I48.up h_o0) (k := 24) rfl)
  have := ra_call I48 J58 (I48.up h_o0) (k := 5) rfl rfl rfl 44
  have := ra_call I48 J58 (I48.up h_o0) (k := 6) rfl rfl rfl 44
  have q65 := J58.keep h_o0 (by decide) (K49 _ 13 23 _ (K40 _ 13 23 _ (K32 _ 13 23 _ rfl (K25 _ 13 23 _ rfl (K18 _ 13 23 _ rfl (K11 _ 13 23 _ rfl q3))))))
  have q66 := J58.keep h_o0 (by decide) (K49 _ 13 19 _ (K40 _ 13 19 _ (K32 _ 13 19 _ rfl (K25 _ 13 19 _ rfl (K18 _ 13 19 _ rfl q10)))))
  have q67 := J58.keep h_o0 (by decide) (K49 _ 13 22 _ (K40 _ 13 22 _ (K32 _ 13 22 _ rfl q24)))
  have q68 := J58.keep h_o0 (by decide) (K49 _ 13 24 _ (K40 _ 13 24 _ q31))
  have q69 := J58.keep h_o0 (by decide) (K49 _ 13 5 _ (K40 _ 13 5 _ q36))
  have t70 := J58.up t_a37
  have q71 := J58.keep h_o0 (by decide) (K49 _ 13 6 _ q45)
  have t72 := J58.up t_a46
  exact mv_vret d_TrustDeskModel_starts_45 rfl ⟨_, I59, rfl, R61, f62, (by have := R61.1 15 _ _ rfl; have := R61.1 16 _ _ rfl; have := R61.1 19 _ _ rfl; omega), (by have := R61.1 15 _ _ rfl; have := R61.1 16 _ _ rfl; have := R61.1 19 _ _ rfl; omega), (by have := R61.1 15 _ _ rfl; have := R61.1 16 _ _ rfl; have := R61.1 19 _ _ rfl; omega), (by have := R61.1 15 _ _ rfl; have := R61.1 16 _ _ rfl; have := R61.1 19 _ _ rfl; omega), (by have := R61.1 15 _ _ rfl; have := R61.1 16 _ _ rfl; have := R61.1 19 _ _ rfl; omega)⟩
