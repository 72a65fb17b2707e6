abbrev kY_TrustDeskModel_number : mj_Y := (⟨"TrustDeskModel", "number", "(II)I"⟩, prog_14_method_33_code, 4, (Option.some Jvm.ClassFile.FieldType.int))
theorem d_TrustDeskModel_number_0 : decode kY_TrustDeskModel_number.2.1 0 = .ok (.aload_n 0, 1) := by decide +kernel
theorem d_TrustDeskModel_number_1 : decode kY_TrustDeskModel_number.2.1 1 = .ok (.invokevirtual 230, 3) := by decide +kernel
theorem d_TrustDeskModel_number_4 : decode kY_TrustDeskModel_number.2.1 4 = .ok (.ifCond .eq 16, 3) := by decide +kernel
theorem d_TrustDeskModel_number_20 : decode kY_TrustDeskModel_number.2.1 20 = .ok (.aload_n 0, 1) := by decide +kernel
theorem d_TrustDeskModel_number_21 : decode kY_TrustDeskModel_number.2.1 21 = .ok (.invokevirtual 230, 3) := by decide +kernel
theorem d_TrustDeskModel_number_24 : decode kY_TrustDeskModel_number.2.1 24 = .ok (.ifCond .eq 23, 3) := by decide +kernel
theorem d_TrustDeskModel_number_47 : decode kY_TrustDeskModel_number.2.1 47 = .ok (.aload_n 0, 1) := by decide +kernel
theorem d_TrustDeskModel_number_48 : decode kY_TrustDeskModel_number.2.1 48 = .ok (.invokevirtual 230, 3) := by decide +kernel
theorem d_TrustDeskModel_number_51 : decode kY_TrustDeskModel_number.2.1 51 = .ok (.ifCond .ne 5, 3) := by decide +kernel
theorem d_TrustDeskModel_number_54 : decode kY_TrustDeskModel_number.2.1 54 = .ok (.iconst 0, 1) := by decide +kernel
theorem d_TrustDeskModel_number_55 : decode kY_TrustDeskModel_number.2.1 55 = .ok (.ireturn, 1) := by decide +kernel
theorem d_TrustDeskModel_number_56 : decode kY_TrustDeskModel_number.2.1 56 = .ok (.aload_n 0, 1) := by decide +kernel
theorem d_TrustDeskModel_number_57 : decode kY_TrustDeskModel_number.2.1 57 = .ok (.getfield 201, 3) := by decide +kernel
theorem d_TrustDeskModel_number_60 : decode kY_TrustDeskModel_number.2.1 60 = .ok (.istore_n 3, 1) := by decide +kernel
theorem d_TrustDeskModel_number_61 : decode kY_TrustDeskModel_number.2.1 61 = .ok (.aload_n 0, 1) := by decide +kernel
theorem d_TrustDeskModel_number_62 : decode kY_TrustDeskModel_number.2.1 62 = .ok (.invokevirtual 237, 3) := by decide +kernel
theorem d_TrustDeskModel_number_65 : decode kY_TrustDeskModel_number.2.1 65 = .ok (.iload_n 3, 1) := by decide +kernel
theorem d_TrustDeskModel_number_66 : decode kY_TrustDeskModel_number.2.1 66 = .ok (.ireturn, 1) := by decide +kernel
theorem d_TrustDeskModel_number_27 : decode kY_TrustDeskModel_number.2.1 27 = .ok (.aload_n 0, 1) := by decide +kernel
theorem d_TrustDeskModel_number_28 : decode kY_TrustDeskModel_number.2.1 28 = .ok (.getfield 201, 3) := by decide +kernel
theorem d_TrustDeskModel_number_31 : decode kY_TrustDeskModel_number.2.1 31 = .ok (.i2l, 1) := by decide +kernel
theorem d_TrustDeskModel_number_32 : decode kY_TrustDeskModel_number.2.1 32 = .ok (.iload_n 1, 1) := by decide +kernel
theorem d_TrustDeskModel_number_33 : decode kY_TrustDeskModel_number.2.1 33 = .ok (.i2l, 1) := by decide +kernel
theorem d_TrustDeskModel_number_34 : decode kY_TrustDeskModel_number.2.1 34 = .ok (.iload_n 2, 1) := by decide +kernel
theorem d_TrustDeskModel_number_35 : decode kY_TrustDeskModel_number.2.1 35 = .ok (.i2l, 1) := by decide +kernel
theorem d_TrustDeskModel_number_36 : decode kY_TrustDeskModel_number.2.1 36 = .ok (.invokestatic 169, 3) := by decide +kernel
abbrev kY_TrustDeskModel_within : mj_Y := (⟨"TrustDeskModel", "within", "(JJJ)Z"⟩, prog_14_method_2_code, 6, (Option.some Jvm.ClassFile.FieldType.boolean))
theorem lS_TrustDeskModel_169 : mj_lS "TrustDeskModel" 169 kY_TrustDeskModel_within 3 := ⟨⟨(mj_in1 (List.mem_of_getElem? (i := 1608) (by decide +kernel)) rfl), (mj_in1 (List.mem_of_getElem? (i := 10) (by decide +kernel)) rfl), (mj_in1 (List.mem_of_getElem? (i := 1610) (by decide +kernel)) rfl), by decide, rfl, by decide⟩, (mj_in1 (List.mem_of_getElem? (i := 1609) (by decide +kernel)) rfl)⟩
theorem d_TrustDeskModel_within_0 : decode kY_TrustDeskModel_within.2.1 0 = .ok (.lload_n 0, 1) := by decide +kernel
theorem d_TrustDeskModel_within_1 : decode kY_TrustDeskModel_within.2.1 1 = .ok (.lload_n 2, 1) := by decide +kernel
theorem d_TrustDeskModel_within_2 : decode kY_TrustDeskModel_within.2.1 2 = .ok (.lcmp, 1) := by decide +kernel
theorem d_TrustDeskModel_within_3 : decode kY_TrustDeskModel_within.2.1 3 = .ok (.ifCond .lt 14, 3) := by decide +kernel
theorem d_TrustDeskModel_within_17 : decode kY_TrustDeskModel_within.2.1 17 = .ok (.iconst 0, 1) := by decide +kernel
theorem d_TrustDeskModel_within_18 : decode kY_TrustDeskModel_within.2.1 18 = .ok (.ireturn, 1) := by decide +kernel
theorem d_TrustDeskModel_number_39 : decode kY_TrustDeskModel_number.2.1 39 = .ok (.ifCond .ne 8, 3) := by decide +kernel
theorem d_TrustDeskModel_number_42 : decode kY_TrustDeskModel_number.2.1 42 = .ok (.aload_n 0, 1) := by decide +kernel
theorem d_TrustDeskModel_number_43 : decode kY_TrustDeskModel_number.2.1 43 = .ok (.iconst 2, 1) := by decide +kernel
theorem d_TrustDeskModel_number_44 : decode kY_TrustDeskModel_number.2.1 44 = .ok (.invokevirtual 240, 3) := by decide +kernel
theorem d_TrustDeskModel_within_6 : decode kY_TrustDeskModel_within.2.1 6 = .ok (.lload_n 0, 1) := by decide +kernel
theorem d_TrustDeskModel_within_7 : decode kY_TrustDeskModel_within.2.1 7 = .ok (.lload 4, 2) := by decide +kernel
theorem d_TrustDeskModel_within_9 : decode kY_TrustDeskModel_within.2.1 9 = .ok (.lcmp, 1) := by decide +kernel
theorem d_TrustDeskModel_within_10 : decode kY_TrustDeskModel_within.2.1 10 = .ok (.ifCond .gt 7, 3) := by decide +kernel
theorem d_TrustDeskModel_within_13 : decode kY_TrustDeskModel_within.2.1 13 = .ok (.iconst 1, 1) := by decide +kernel
theorem d_TrustDeskModel_within_14 : decode kY_TrustDeskModel_within.2.1 14 = .ok (.goto 4, 3) := by decide +kernel
theorem d_TrustDeskModel_number_7 : decode kY_TrustDeskModel_number.2.1 7 = .ok (.aload_n 0, 1) := by decide +kernel
theorem d_TrustDeskModel_number_8 : decode kY_TrustDeskModel_number.2.1 8 = .ok (.getfield 198, 3) := by decide +kernel
theorem d_TrustDeskModel_number_11 : decode kY_TrustDeskModel_number.2.1 11 = .ok (.iconst 2, 1) := by decide +kernel
theorem d_TrustDeskModel_number_12 : decode kY_TrustDeskModel_number.2.1 12 = .ok (.if_icmp .eq 8, 3) := by decide +kernel
theorem d_TrustDeskModel_number_15 : decode kY_TrustDeskModel_number.2.1 15 = .ok (.aload_n 0, 1) := by decide +kernel
theorem d_TrustDeskModel_number_16 : decode kY_TrustDeskModel_number.2.1 16 = .ok (.iconst 1, 1) := by decide +kernel
theorem d_TrustDeskModel_number_17 : decode kY_TrustDeskModel_number.2.1 17 = .ok (.invokevirtual 240, 3) := by decide +kernel
def w_TrustDeskModel_number_x : List Nat := [1315, 1316, 1317, 1318, 1319, 1320]
set_option maxHeartbeats 100000000 in theorem tc_TrustDeskModel_number_x {g : mj_G} {l : Launch} {d : Nat} {T0 : tm_H} {M0 : mj_M} {n0 x9 : Nat} {o0 : Nat} {x1 : Int32} {x2 : Int32} (h_o0 : T0 o0 = some (0, 13, 0)) (yR : rI M0 o0) (yT : rT M0 o0) (yS : rv M0 o0 19 = 0 → ra M0 o0 5 44 ≤ rv M0 o0 16) (I0 : tm_I tm_FT (tm_in w_TrustDeskModel_number_x) x9 T0 M0 n0 T0 M0 n0) : mj_Met g l kY_TrustDeskModel_number (d + 2) [.ref o0, .int x1, .int x2] M0 n0 0 0 (tm_Q tm_FT (tm_in w_TrustDeskModel_number_x) x9 T0 M0 n0 (fun r _ M => ∃ v : Int32, r = some (.int v) ∧ rI M o0 ∧ (rE M0 M o0 0 1) ∧ (v.toInt = 0 ∨ (x1.toInt ≤ v.toInt ∧ v.toInt ≤ x2.toInt)))) := by
  refine mj_enter (by decide) (Nat.le_of_ble_eq_true rfl) ?_
  have yE0 := rE.rf yT
  refine mv_aload_n d_TrustDeskModel_number_0 rfl rfl ?_
  obtain ⟨_, b1, -⟩ := I0.1 _ _ h_o0
  refine mv_callV (kc1 := 0) (ks1 := 0) (kc' := 0) (ks' := 0) (As := []) (st9 := [.ref o0]) d_TrustDeskModel_number_1 lV_TrustDeskModel_230 b1 rfl (mj_enter (by decide) (Nat.le_of_ble_eq_true rfl) ?_) rfl (Nat.le_of_ble_eq_true rfl) (Nat.le_of_ble_eq_true rfl) (Nat.le_of_ble_eq_true rfl) (hst := rfl) (fun _ _ _ h => h)
  refine mv_aload_n d_TrustDeskModel_isWell_0 rfl rfl ?_
  obtain ⟨v3, q2⟩ := tm_atI I0 h_o0 (k := 19) rfl
  refine tr_getK q2 d_TrustDeskModel_isWell_1 f_TrustDeskModel_224_13 ?_
  have := yR.f (k := 19) q2 rfl
  have := tm_rv q2
  have := mz_hi v3
  refine mv_if_neZ (tgt := 11) (a := v3.toInt) d_TrustDeskModel_isWell_4 (by decide) rfl (fun b4 => ?_) (fun b4 => ?_)
  · refine mv_iconst (v := 0) d_TrustDeskModel_isWell_11 (by decide) ?_
    refine mv_iret d_TrustDeskModel_isWell_12 rfl (by decide) ?_
    refine mv_if_eq_t (tgt := 20) d_TrustDeskModel_number_4 (by decide) (by decide) ?_
    refine mv_aload_n d_TrustDeskModel_number_20 rfl rfl ?_
    obtain ⟨_, b5, -⟩ := I0.1 _ _ h_o0
    refine mv_callV (kc1 := 0) (ks1 := 0) (kc' := 0) (ks' := 0) (As := []) (st9 := [.ref o0]) d_TrustDeskModel_number_21 lV_TrustDeskModel_230 b5 rfl (mj_enter (by decide) (Nat.le_of_ble_eq_true rfl) ?_) rfl (Nat.le_of_ble_eq_true rfl) (Nat.le_of_ble_eq_true rfl) (Nat.le_of_ble_eq_true rfl) (hst := rfl) (fun _ _ _ h => h)
    refine mv_aload_n d_TrustDeskModel_isWell_0 rfl rfl ?_
    refine tr_getK (k := 19) q2 d_TrustDeskModel_isWell_1 f_TrustDeskModel_224_13 ?_
    have := mz_hi v3
    refine mv_if_neZ (tgt := 11) (a := v3.toInt) d_TrustDeskModel_isWell_4 (by decide) rfl (fun b6 => ?_) (fun b6 => ?_)
    · refine mv_iconst (v := 0) d_TrustDeskModel_isWell_11 (by decide) ?_
      refine mv_iret d_TrustDeskModel_isWell_12 rfl (by decide) ?_
      refine mv_if_eq_t (tgt := 47) d_TrustDeskModel_number_24 (by decide) (by decide) ?_
      refine mv_aload_n d_TrustDeskModel_number_47 rfl rfl ?_
      obtain ⟨_, b7, -⟩ := I0.1 _ _ h_o0
      refine mv_callV (kc1 := 0) (ks1 := 0) (kc' := 0) (ks' := 0) (As := []) (st9 := [.ref o0]) d_TrustDeskModel_number_48 lV_TrustDeskModel_230 b7 rfl (mj_enter (by decide) (Nat.le_of_ble_eq_true rfl) ?_) rfl (Nat.le_of_ble_eq_true rfl) (Nat.le_of_ble_eq_true rfl) (Nat.le_of_ble_eq_true rfl) (hst := rfl) (fun _ _ _ h => h)
      refine mv_aload_n d_TrustDeskModel_isWell_0 rfl rfl ?_
      refine tr_getK (k := 19) q2 d_TrustDeskModel_isWell_1 f_TrustDeskModel_224_13 ?_
      have := mz_hi v3
      refine mv_if_neZ (tgt := 11) (a := v3.toInt) d_TrustDeskModel_isWell_4 (by decide) rfl (fun b8 => ?_) (fun b8 => ?_)
      · refine mv_iconst (v := 0) d_TrustDeskModel_isWell_11 (by decide) ?_
        refine mv_iret d_TrustDeskModel_isWell_12 rfl (by decide) ?_
        refine mv_if_ne_f (tgt := 56) d_TrustDeskModel_number_51 (by decide) (by decide) ?_
        refine mv_iconst (v := 0) d_TrustDeskModel_number_54 (by decide) ?_
        exact mv_iret d_TrustDeskModel_number_55 rfl (by first | rfl | decide) ⟨_, I0, _, rfl, yR, yE0.vac (by have := yR.1 15 _ _ rfl; have := yR.1 16 _ _ rfl; have := yR.1 19 _ _ rfl; omega) 0 1, (Or.inl (by decide))⟩
      · refine mv_iconst (v := 1) d_TrustDeskModel_isWell_7 (by decide) ?_
        refine mv_goto (tgt := 12) d_TrustDeskModel_isWell_8 (by decide) ?_
        refine mv_iret d_TrustDeskModel_isWell_12 rfl (by decide) ?_
        refine mv_if_ne_t (tgt := 56) d_TrustDeskModel_number_51 (by decide) (by decide) ?_
        refine mv_aload_n d_TrustDeskModel_number_56 rfl rfl ?_
        obtain ⟨v10, q9⟩ := tm_atI I0 h_o0 (k := 18) rfl
        refine tr_getK q9 d_TrustDeskModel_number_57 f_TrustDeskModel_201_13 ?_
        have := yR.f (k := 18) q9 rfl
        have := tm_rv q9
        refine mv_istore_n (lv' := [(3, .int v10), (0, .ref o0), (1, .int x1), (2, .int x2)]) d_TrustDeskModel_number_60 rfl (by decide) rfl ?_
        refine mv_aload_n d_TrustDeskModel_number_61 rfl rfl ?_
        obtain ⟨_, b17, -⟩ := I0.1 _ _ h_o0
        refine mv_callV (kc' := 0) (ks' := 0) (As := []) (st9 := [.ref o0]) d_TrustDeskModel_number_62 lV_TrustDeskModel_237 b17 rfl (tc_TrustDeskModel_next_x (d := d) (x9 := x9) (o0 := o0) h_o0 yR I0.start) rfl (Nat.le_of_ble_eq_true rfl) (Nat.le_of_ble_eq_true rfl) (Nat.le_of_ble_eq_true rfl) (hst := rfl) (fun b11r M12 n13 b11 => ?_)
        obtain ⟨T14, J15, rfl, R18, f19, f20⟩ := b11
        have I16 := I0.call J15 (tm_sub (by decide)) (Or.inl rfl)
        have t21 := J15.up h_o0
        have z22 := (rv_c I0 J15 (I0.up h_o0) (k := 19) rfl)
        have z23 := (rv_c I0 J15 (I0.up h_o0) (k := 22) rfl)
        have z24 := (rv_c I0 J15 (I0.up h_o0) (k := 24) rfl)
        have z25 := (ra_call I0 J15 (I0.up h_o0) (k := 5) rfl rfl rfl 44)
        have z26 := (ra_call I0 J15 (I0.up h_o0) (k := 6) rfl rfl rfl 44)
        have h28 : rv M0 o0 16 + 1 ≤ rv M0 o0 15 := (by have := yE0.1.2.1 (by omega); omega)
        have E27 : rE M0 M12 o0 0 1 := yE0.next f19 f20 (rv_c I0 J15 (I0.up h_o0) (k := 19) rfl) (rE_ha I0 J15 (I0.up h_o0) (by decide)) (e := 1) h28 (by decide)
        have q29 := J15.keep h_o0 (by decide) q2
        refine mv_iload_n d_TrustDeskModel_number_65 rfl rfl ?_
        exact mv_iret d_TrustDeskModel_number_66 rfl (by first | rfl | decide) ⟨_, I16, _, rfl, R18, E27, (Or.inr (by have := R18.1 15 _ _ rfl; have := R18.1 16 _ _ rfl; have := R18.1 19 _ _ rfl; omega))⟩
    · refine mv_iconst (v := 1) d_TrustDeskModel_isWell_7 (by decide) ?_
      refine mv_goto (tgt := 12) d_TrustDeskModel_isWell_8 (by decide) ?_
      refine mv_iret d_TrustDeskModel_isWell_12 rfl (by decide) ?_
      refine mv_if_eq_f (tgt := 47) d_TrustDeskModel_number_24 (by decide) (by decide) ?_
      refine mv_aload_n d_TrustDeskModel_number_27 rfl rfl ?_
      obtain ⟨v31, q30⟩ := tm_atI I0 h_o0 (k := 18) rfl
      refine tr_getK q30 d_TrustDeskModel_number_28 f_TrustDeskModel_201_13 ?_
      have := yR.f (k := 18) q30 rfl
      have := tm_rv q30
      refine mv_i2l (v := v31.toInt64) d_TrustDeskModel_number_31 rfl ?_
      refine mv_iload_n d_TrustDeskModel_number_32 rfl rfl ?_
      refine mv_i2l (v := x1.toInt64) d_TrustDeskModel_number_33 rfl ?_
      refine mv_iload_n d_TrustDeskModel_number_34 rfl rfl ?_
      refine mv_i2l (v := x2.toInt64) d_TrustDeskModel_number_35 rfl ?_
      refine mv_callS (kc1 := 0) (ks1 := 0) (kc' := 0) (ks' := 0) (As := [.long v31.toInt64, .long x1.toInt64, .long x2.toInt64]) (st9 := [.long x2.toInt64, .long x1.toInt64, .long v31.toInt64]) d_TrustDeskModel_number_36 lS_TrustDeskModel_169 (mj_enter (by decide) (Nat.le_of_ble_eq_true rfl) ?_) rfl (Nat.le_of_ble_eq_true rfl) (Nat.le_of_ble_eq_true rfl) (Nat.le_of_ble_eq_true rfl) (hst := rfl) (fun _ _ _ h => h)
      refine mv_lload_n d_TrustDeskModel_within_0 rfl rfl ?_
      refine mv_lload_n d_TrustDeskModel_within_1 rfl rfl ?_
      refine mv_lltZ (tgt := 17) (a := v31.toInt) (b := x1.toInt) d_TrustDeskModel_within_2 d_TrustDeskModel_within_3 (by decide) (mz_wide _) (mz_wide _) (fun b32 => ?_) (fun b32 => ?_)
      · refine mv_iconst (v := 0) d_TrustDeskModel_within_17 (by decide) ?_
        refine mv_iret d_TrustDeskModel_within_18 rfl (by decide) ?_
        refine mv_if_ne_f (tgt := 47) d_TrustDeskModel_number_39 (by decide) (by decide) ?_
        refine mv_aload_n d_TrustDeskModel_number_42 rfl rfl ?_
        refine mv_iconst (v := 2) d_TrustDeskModel_number_43 (by decide) ?_
        obtain ⟨_, b39, -⟩ := I0.1 _ _ h_o0
        have : (2 : Int32).toInt = 2 := by decide
        refine mv_callV (kc' := 0) (ks' := 0) (As := [.int 2]) (st9 := [.int 2, .ref o0]) d_TrustDeskModel_number_44 lV_TrustDeskModel_240 b39 rfl (tc_TrustDeskModel_fails_x (d := (d + 1)) (x9 := x9) (o0 := o0) (x1 := 2) h_o0 yR (by decide) I0.start) rfl (Nat.le_of_ble_eq_true rfl) (Nat.le_of_ble_eq_true rfl) (Nat.le_of_ble_eq_true rfl) (hst := rfl) (fun b33r M34 n35 b33 => ?_)
        obtain ⟨T36, J37, rfl, R40, f41⟩ := b33
        have I38 := I0.call J37 (tm_sub (by decide)) (Or.inl rfl)
        have t42 := J37.up h_o0
        have z43 := (rv_c I0 J37 (I0.up h_o0) (k := 15) rfl)
        have z44 := (rv_c I0 J37 (I0.up h_o0) (k := 16) rfl)
        have z45 := (rv_c I0 J37 (I0.up h_o0) (k := 17) rfl)
        have z46 := (rv_c I0 J37 (I0.up h_o0) (k := 22) rfl)
        have z47 := (rv_c I0 J37 (I0.up h_o0) (k := 24) rfl)
        have z48 := (ra_call I0 J37 (I0.up h_o0) (k := 5) rfl rfl rfl 44)
        have z49 := (ra_call I0 J37 (I0.up h_o0) (k := 6) rfl rfl rfl 44)
        have E50 : rE M0 M34 o0 0 0 := yE0.fails (rE_hv I0 J37 (I0.up h_o0) 15 18 (by decide)) (rE_ha I0 J37 (I0.up h_o0) (by decide)) f41 0 0
        have q51 := J37.keep h_o0 (by decide) q30
        refine mv_aload_n d_TrustDeskModel_number_47 rfl rfl ?_
        obtain ⟨_, b52, -⟩ := I38.1 _ _ t42
        refine mv_callV (kc1 := 0) (ks1 := 0) (kc' := 0) (ks' := 0) (As := []) (st9 := [.ref o0]) d_TrustDeskModel_number_48 lV_TrustDeskModel_230 b52 rfl (mj_enter (by decide) (Nat.le_of_ble_eq_true rfl) ?_) rfl (Nat.le_of_ble_eq_true rfl) (Nat.le_of_ble_eq_true rfl) (Nat.le_of_ble_eq_true rfl) (hst := rfl) (fun _ _ _ h => h)
        refine mv_aload_n d_TrustDeskModel_isWell_0 rfl rfl ?_
        obtain ⟨v54, q53⟩ := tm_atI I38 t42 (k := 19) rfl
        refine tr_getK q53 d_TrustDeskModel_isWell_1 f_TrustDeskModel_224_13 ?_
        have := R40.f (k := 19) q53 rfl
        have := tm_rv q53
        refine mv_if_neZ (tgt := 11) (a := v54.toInt) d_TrustDeskModel_isWell_4 (by decide) rfl (fun b55 => ?_) (fun b55 => ?_)
        · refine mv_iconst (v := 0) d_TrustDeskModel_isWell_11 (by decide) ?_
          refine mv_iret d_TrustDeskModel_isWell_12 rfl (by decide) ?_
          refine mv_if_ne_f (tgt := 56) d_TrustDeskModel_number_51 (by decide) (by decide) ?_
          refine mv_iconst (v := 0) d_TrustDeskModel_number_54 (by decide) ?_
          exact mv_iret d_TrustDeskModel_number_55 rfl (by first | rfl | decide) ⟨_, I38, _, rfl, R40, E50.vac (by have := R40.1 15 _ _ rfl; have := R40.1 16 _ _ rfl; have := R40.1 19 _ _ rfl; omega) 0 1, (Or.inl (by decide))⟩
        · exfalso
          have := R40.1 15 _ _ rfl; have := R40.1 16 _ _ rfl; have := R40.1 19 _ _ rfl; omega
      · refine mv_lload_n d_TrustDeskModel_within_6 rfl rfl ?_
        refine mv_lload d_TrustDeskModel_within_7 rfl ?_
        refine mv_lgtZ (tgt := 17) (a := v31.toInt) (b := x2.toInt) d_TrustDeskModel_within_9 d_TrustDeskModel_within_10 (by decide) (mz_wide _) (mz_wide _) (fun b56 => ?_) (fun b56 => ?_)
        · refine mv_iconst (v := 0) d_TrustDeskModel_within_17 (by decide) ?_
          refine mv_iret d_TrustDeskModel_within_18 rfl (by decide) ?_
          refine mv_if_ne_f (tgt := 47) d_TrustDeskModel_number_39 (by decide) (by decide) ?_
          refine mv_aload_n d_TrustDeskModel_number_42 rfl rfl ?_
          refine mv_iconst (v := 2) d_TrustDeskModel_number_43 (by decide) ?_
          obtain ⟨_, b63, -⟩ := I0.1 _ _ h_o0
          have : (2 : Int32).toInt = 2 := by decide
          refine mv_callV (kc' := 0) (ks' := 0) (As := [.int 2]) (st9 := [.int 2, .ref o0]) d_TrustDeskModel_number_44 lV_TrustDeskModel_240 b63 rfl (tc_TrustDeskModel_fails_x (d := (d + 1)) (x9 := x9) (o0 := o0) (x1 := 2) h_o0 yR (by decide) I0.start) rfl (Nat.le_of_ble_eq_true rfl) (Nat.le_of_ble_eq_true rfl) (Nat.le_of_ble_eq_true rfl) (hst := rfl) (fun b57r M58 n59 b57 => ?_)
          obtain ⟨T60, J61, rfl, R64, f65⟩ := b57
          have I62 := I0.call J61 (tm_sub (by decide)) (Or.inl rfl)
          have t66 := J61.up h_o0
          have z67 := (rv_c I0 J61 (I0.up h_o0) (k := 15) rfl)
          have z68 := (rv_c I0 J61 (I0.up h_o0) (k := 16) rfl)
          have z69 := (rv_c I0 J61 (I0.up h_o0) (k := 17) rfl)
          have z70 := (rv_c I0 J61 (I0.up h_o0) (k := 22) rfl)
          have z71 := (rv_c I0 J61 (I0.up h_o0) (k := 24) rfl)
          have z72 := (ra_call I0 J61 (I0.up h_o0) (k := 5) rfl rfl rfl 44)
          have z73 := (ra_call I0 J61 (I0.up h_o0) (k := 6) rfl rfl rfl 44)
          have E74 : rE M0 M58 o0 0 0 := yE0.fails (rE_hv I0 J61 (I0.up h_o0) 15 18 (by decide)) (rE_ha I0 J61 (I0.up h_o0) (by decide)) f65 0 0
          have q75 := J61.keep h_o0 (by decide) q30
          refine mv_aload_n d_TrustDeskModel_number_47 rfl rfl ?_
          obtain ⟨_, b76, -⟩ := I62.1 _ _ t66
          refine mv_callV (kc1 := 0) (ks1 := 0) (kc' := 0) (ks' := 0) (As := []) (st9 := [.ref o0]) d_TrustDeskModel_number_48 lV_TrustDeskModel_230 b76 rfl (mj_enter (by decide) (Nat.le_of_ble_eq_true rfl) ?_) rfl (Nat.le_of_ble_eq_true rfl) (Nat.le_of_ble_eq_true rfl) (Nat.le_of_ble_eq_true rfl) (hst := rfl) (fun _ _ _ h => h)
          refine mv_aload_n d_TrustDeskModel_isWell_0 rfl rfl ?_
          obtain ⟨v78, q77⟩ := tm_atI I62 t66 (k := 19) rfl
          refine tr_getK q77 d_TrustDeskModel_isWell_1 f_TrustDeskModel_224_13 ?_
          have := R64.f (k := 19) q77 rfl
          have := tm_rv q77
          refine mv_if_neZ (tgt := 11) (a := v78.toInt) d_TrustDeskModel_isWell_4 (by decide) rfl (fun b79 => ?_) (fun b79 => ?_)
          · refine mv_iconst (v := 0) d_TrustDeskModel_isWell_11 (by decide) ?_
            refine mv_iret d_TrustDeskModel_isWell_12 rfl (by decide) ?_
            refine mv_if_ne_f (tgt := 56) d_TrustDeskModel_number_51 (by decide) (by decide) ?_
            refine mv_iconst (v := 0) d_TrustDeskModel_number_54 (by decide) ?_
            exact mv_iret d_TrustDeskModel_number_55 rfl (by first | rfl | decide) ⟨_, I62, _, rfl, R64, E74.vac (by have := R64.1 15 _ _ rfl; have := R64.1 16 _ _ rfl; have := R64.1 19 _ _ rfl; omega) 0 1, (Or.inl (by decide))⟩
          · exfalso
            have := R64.1 15 _ _ rfl; have := R64.1 16 _ _ rfl; have := R64.1 19 _ _ rfl; omega
        · refine mv_iconst (v := 1) d_TrustDeskModel_within_13 (by decide) ?_
          refine mv_goto (tgt := 18) d_TrustDeskModel_within_14 (by decide) ?_
          refine mv_iret d_TrustDeskModel_within_18 rfl (by decide) ?_
          refine mv_if_ne_t (tgt := 47) d_TrustDeskModel_number_39 (by decide) (by decide) ?_
          refine mv_aload_n d_TrustDeskModel_number_47 rfl rfl ?_
          obtain ⟨_, b80, -⟩ := I0.1 _ _ h_o0
          refine mv_callV (kc1 := 0) (ks1 := 0) (kc' := 0) (ks' := 0) (As := []) (st9 := [.ref o0]) d_TrustDeskModel_number_48 lV_TrustDeskModel_230 b80 rfl (mj_enter (by decide) (Nat.le_of_ble_eq_true rfl) ?_) rfl (Nat.le_of_ble_eq_true rfl) (Nat.le_of_ble_eq_true rfl) (Nat.le_of_ble_eq_true rfl) (hst := rfl) (fun _ _ _ h => h)
          refine mv_aload_n d_TrustDeskModel_isWell_0 rfl rfl ?_
          refine tr_getK (k := 19) q2 d_TrustDeskModel_isWell_1 f_TrustDeskModel_224_13 ?_
          have := mz_hi v3
          refine mv_if_neZ (tgt := 11) (a := v3.toInt) d_TrustDeskModel_isWell_4 (by decide) rfl (fun b81 => absurd b81 (by omega)) (fun b81 => ?_)
          refine mv_iconst (v := 1) d_TrustDeskModel_isWell_7 (by decide) ?_
          refine mv_goto (tgt := 12) d_TrustDeskModel_isWell_8 (by decide) ?_
          refine mv_iret d_TrustDeskModel_isWell_12 rfl (by decide) ?_
          refine mv_if_ne_t (tgt := 56) d_TrustDeskModel_number_51 (by decide) (by decide) ?_
          refine mv_aload_n d_TrustDeskModel_number_56 rfl rfl ?_
          refine tr_getK (k := 18) q30 d_TrustDeskModel_number_57 f_TrustDeskModel_201_13 ?_
          refine mv_istore_n (lv' := [(3, .int v31), (0, .ref o0), (1, .int x1), (2, .int x2)]) d_TrustDeskModel_number_60 rfl (by decide) rfl ?_
          refine mv_aload_n d_TrustDeskModel_number_61 rfl rfl ?_
          obtain ⟨_, b88, -⟩ := I0.1 _ _ h_o0
          refine mv_callV (kc' := 0) (ks' := 0) (As := []) (st9 := [.ref o0]) d_TrustDeskModel_number_62 lV_TrustDeskModel_237 b88 rfl (tc_TrustDeskModel_next_x (d := d) (x9 := x9) (o0 := o0) h_o0 yR I0.start) rfl (Nat.le_of_ble_eq_true rfl) (Nat.le_of_ble_eq_true rfl) (Nat.le_of_ble_eq_true rfl) (hst := rfl) (fun b82r M83 n84 b82 => ?_)
          obtain ⟨T85, J86, rfl, R89, f90, f91⟩ := b82
          have I87 := I0.call J86 (tm_sub (by decide)) (Or.inl rfl)
          have t92 := J86.up h_o0
          have z93 := (rv_c I0 J86 (I0.up h_o0) (k := 19) rfl)
          have z94 := (rv_c I0 J86 (I0.up h_o0) (k := 22) rfl)
          have z95 := (rv_c I0 J86 (I0.up h_o0) (k := 24) rfl)
          have z96 := (ra_call I0 J86 (I0.up h_o0) (k := 5) rfl rfl rfl 44)
          have z97 := (ra_call I0 J86 (I0.up h_o0) (k := 6) rfl rfl rfl 44)
          have h99 : rv M0 o0 16 + 1 ≤ rv M0 o0 15 := (by have := yE0.1.2.1 (by omega); omega)
          have E98 : rE M0 M83 o0 0 1 := yE0.next f90 f91 (rv_c I0 J86 (I0.up h_o0) (k := 19) rfl) (rE_ha I0 J86 (I0.up h_o0) (by decide)) (e := 1) h99 (by decide)
          have q100 := J86.keep h_o0 (by decide) q2
          refine mv_iload_n d_TrustDeskModel_number_65 rfl rfl ?_
          exact mv_iret d_TrustDeskModel_number_66 rfl (by first | rfl | decide) ⟨_, I87, _, rfl, R89, E98, (Or.inr (by have := R89.1 15 _ _ rfl; have := R89.1 16 _ _ rfl; have := R89.1 19 _ _ rfl; omega))⟩
  · refine mv_iconst (v := 1) d_TrustDeskModel_isWell_7 (by decide) ?_
    refine mv_goto (tgt := 12) d_TrustDeskModel_isWell_8 (by decide) ?_
    refine mv_iret d_TrustDeskModel_isWell_12 rfl (by decide) ?_
    refine mv_if_eq_f (tgt := 20) d_TrustDeskModel_number_4 (by decide) (by decide) ?_
    refine mv_aload_n d_TrustDeskModel_number_7 rfl rfl ?_
    obtain ⟨v102, q101⟩ := tm_atI I0 h_o0 (k := 17) rfl
    refine tr_getK q101 d_TrustDeskModel_number_8 f_TrustDeskModel_198_13 ?_
    have := tm_rv q101
    refine mv_iconst (v := 2) d_TrustDeskModel_number_11 (by decide) ?_
    have := mz_hi v102
    refine mv_icmp_eqZ (tgt := 20) (a := v102.toInt) (b := 2) d_TrustDeskModel_number_12 (by decide) rfl (by decide) (fun b103 => ?_) (fun b103 => ?_)
    · refine mv_aload_n d_TrustDeskModel_number_20 rfl rfl ?_
      obtain ⟨_, b104, -⟩ := I0.1 _ _ h_o0
      refine mv_callV (kc1 := 0) (ks1 := 0) (kc' := 0) (ks' := 0) (As := []) (st9 := [.ref o0]) d_TrustDeskModel_number_21 lV_TrustDeskModel_230 b104 rfl (mj_enter (by decide) (Nat.le_of_ble_eq_true rfl) ?_) rfl (Nat.le_of_ble_eq_true rfl) (Nat.le_of_ble_eq_true rfl) (Nat.le_of_ble_eq_true rfl) (hst := rfl) (fun _ _ _ h => h)
      refine mv_aload_n d_TrustDeskModel_isWell_0 rfl rfl ?_
      refine tr_getK (k := 19) q2 d_TrustDeskModel_isWell_1 f_TrustDeskModel_224_13 ?_
      have := mz_hi v3
      refine mv_if_neZ (tgt := 11) (a := v3.toInt) d_TrustDeskModel_isWell_4 (by decide) rfl (fun b105 => absurd b105 (by omega)) (fun b105 => ?_)
      refine mv_iconst (v := 1) d_TrustDeskModel_isWell_7 (by decide) ?_
      refine mv_goto (tgt := 12) d_TrustDeskModel_isWell_8 (by decide) ?_
      refine mv_iret d_TrustDeskModel_isWell_12 rfl (by decide) ?_
      refine mv_if_eq_f (tgt := 47) d_TrustDeskModel_number_24 (by decide) (by decide) ?_
      refine mv_aload_n d_TrustDeskModel_number_27 rfl rfl ?_
      obtain ⟨v107, q106⟩ := tm_atI I0 h_o0 (k := 18) rfl
      refine tr_getK q106 d_TrustDeskModel_number_28 f_TrustDeskModel_201_13 ?_
      have := yR.f (k := 18) q106 rfl
      have := tm_rv q106
      refine mv_i2l (v := v107.toInt64) d_TrustDeskModel_number_31 rfl ?_
      refine mv_iload_n d_TrustDeskModel_number_32 rfl rfl ?_
      refine mv_i2l (v := x1.toInt64) d_TrustDeskModel_number_33 rfl ?_
      refine mv_iload_n d_TrustDeskModel_number_34 rfl rfl ?_
      refine mv_i2l (v := x2.toInt64) d_TrustDeskModel_number_35 rfl ?_
      refine mv_callS (kc1 := 0) (ks1 := 0) (kc' := 0) (ks' := 0) (As := [.long v107.toInt64, .long x1.toInt64, .long x2.toInt64]) (st9 := [.long x2.toInt64, .long x1.toInt64, .long v107.toInt64]) d_TrustDeskModel_number_36 lS_TrustDeskModel_169 (mj_enter (by decide) (Nat.le_of_ble_eq_true rfl) ?_) rfl (Nat.le_of_ble_eq_true rfl) (Nat.le_of_ble_eq_true rfl) (Nat.le_of_ble_eq_true rfl) (hst := rfl) (fun _ _ _ h => h)
      refine mv_lload_n d_TrustDeskModel_within_0 rfl rfl ?_
      refine mv_lload_n d_TrustDeskModel_within_1 rfl rfl ?_
      refine mv_lltZ (tgt := 17) (a := v107.toInt) (b := x1.toInt) d_TrustDeskModel_within_2 d_TrustDeskModel_within_3 (by decide) (mz_wide _) (mz_wide _) (fun b108 => ?_) (fun b108 => ?_)
      · refine mv_iconst (v := 0) d_TrustDeskModel_within_17 (by decide) ?_
        refine mv_iret d_TrustDeskModel_within_18 rfl (by decide) ?_
        refine mv_if_ne_f (tgt := 47) d_TrustDeskModel_number_39 (by decide) (by decide) ?_
        refine mv_aload_n d_TrustDeskModel_number_42 rfl rfl ?_
        refine mv_iconst (v := 2) d_TrustDeskModel_number_43 (by decide) ?_
        obtain ⟨_, b115, -⟩ := I0.1 _ _ h_o0
        have : (2 : Int32).toInt = 2 := by decide
        refine mv_callV (kc' := 0) (ks' := 0) (As := [.int 2]) (st9 := [.int 2, .ref o0]) d_TrustDeskModel_number_44 lV_TrustDeskModel_240 b115 rfl (tc_TrustDeskModel_fails_x (d := (d + 1)) (x9 := x9) (o0 := o0) (x1 := 2) h_o0 yR (by decide) I0.start) rfl (Nat.le_of_ble_eq_true rfl) (Nat.le_of_ble_eq_true rfl) (Nat.le_of_ble_eq_true rfl) (hst := rfl) (fun b109r M110 n111 b109 => ?_)
        obtain ⟨T112, J113, rfl, R116, f117⟩ := b109
        have I114 := I0.call J113 (tm_sub (by decide)) (Or.inl rfl)
        have t118 := J113.up h_o0
        have z119 := (rv_c I0 J113 (I0.up h_o0) (k := 15) rfl)
        have z120 := (rv_c I0 J113 (I0.up h_o0) (k := 16) rfl)
        have z121 := (rv_c I0 J113 (I0.up h_o0) (k := 17) rfl)
        have z122 := (rv_c I0 J113 (I0.up h_o0) (k := 22) rfl)
        have z123 := (rv_c I0 J113 (I0.up h_o0) (k := 24) rfl)
        have z124 := (ra_call I0 J113 (I0.up h_o0) (k := 5) rfl rfl rfl 44)
        have z125 := (ra_call I0 J113 (I0.up h_o0) (k := 6) rfl rfl rfl 44)
        have E126 : rE M0 M110 o0 0 0 := yE0.fails (rE_hv I0 J113 (I0.up h_o0) 15 18 (by decide)) (rE_ha I0 J113 (I0.up h_o0) (by decide)) f117 0 0
        have q127 := J113.keep h_o0 (by decide) q101
        have q128 := J113.keep h_o0 (by decide) q106
        refine mv_aload_n d_TrustDeskModel_number_47 rfl rfl ?_
        obtain ⟨_, b129, -⟩ := I114.1 _ _ t118
        refine mv_callV (kc1 := 0) (ks1 := 0) (kc' := 0) (ks' := 0) (As := []) (st9 := [.ref o0]) d_TrustDeskModel_number_48 lV_TrustDeskModel_230 b129 rfl (mj_enter (by decide) (Nat.le_of_ble_eq_true rfl) ?_) rfl (Nat.le_of_ble_eq_true rfl) (Nat.le_of_ble_eq_true rfl) (Nat.le_of_ble_eq_true rfl) (hst := rfl) (fun _ _ _ h => h)
        refine mv_aload_n d_TrustDeskModel_isWell_0 rfl rfl ?_
        obtain ⟨v131, q130⟩ := tm_atI I114 t118 (k := 19) rfl
        refine tr_getK q130 d_TrustDeskModel_isWell_1 f_TrustDeskModel_224_13 ?_
        have := R116.f (k := 19) q130 rfl
        have := tm_rv q130
        refine mv_if_neZ (tgt := 11) (a := v131.toInt) d_TrustDeskModel_isWell_4 (by decide) rfl (fun b132 => ?_) (fun b132 => ?_)
        · refine mv_iconst (v := 0) d_TrustDeskModel_isWell_11 (by decide) ?_
          refine mv_iret d_TrustDeskModel_isWell_12 rfl (by decide) ?_
          refine mv_if_ne_f (tgt := 56) d_TrustDeskModel_number_51 (by decide) (by decide) ?_
          refine mv_iconst (v := 0) d_TrustDeskModel_number_54 (by decide) ?_
          exact mv_iret d_TrustDeskModel_number_55 rfl (by first | rfl | decide) ⟨_, I114, _, rfl, R116, E126.vac (by have := R116.1 15 _ _ rfl; have := R116.1 16 _ _ rfl; have := R116.1 19 _ _ rfl; omega) 0 1, (Or.inl (by decide))⟩
        · exfalso
          have := R116.1 15 _ _ rfl; have := R116.1 16 _ _ rfl; have := R116.1 19 _ _ rfl; omega
      · refine mv_lload_n d_TrustDeskModel_within_6 rfl rfl ?_
        refine mv_lload d_TrustDeskModel_within_7 rfl ?_
        refine mv_lgtZ (tgt := 17) (a := v107.toInt) (b := x2.toInt) d_TrustDeskModel_within_9 d_TrustDeskModel_within_10 (by decide) (mz_wide _) (mz_wide _) (fun b133 => ?_) (fun b133 => ?_)
        · refine mv_iconst (v := 0) d_TrustDeskModel_within_17 (by decide) ?_
          refine mv_iret d_TrustDeskModel_within_18 rfl (by decide) ?_
          refine mv_if_ne_f (tgt := 47) d_TrustDeskModel_number_39 (by decide) (by decide) ?_
          refine mv_aload_n d_TrustDeskModel_number_42 rfl rfl ?_
          refine mv_iconst (v := 2) d_TrustDeskModel_number_43 (by decide) ?_
          obtain ⟨_, b140, -⟩ := I0.1 _ _ h_o0
          have : (2 : Int32).toInt = 2 := by decide
          refine mv_callV (kc' := 0) (ks' := 0) (As := [.int 2]) (st9 := [.int 2, .ref o0]) d_TrustDeskModel_number_44 lV_TrustDeskModel_240 b140 rfl (tc_TrustDeskModel_fails_x (d := (d + 1)) (x9 := x9) (o0 := o0) (x1 := 2) h_o0 yR (by decide) I0.start) rfl (Nat.le_of_ble_eq_true rfl) (Nat.le_of_ble_eq_true rfl) (Nat.le_of_ble_eq_true rfl) (hst := rfl) (fun b134r M135 n136 b134 => ?_)
          obtain ⟨T137, J138, rfl, R141, f142⟩ := b134
          have I139 := I0.call J138 (tm_sub (by decide)) (Or.inl rfl)
          have t143 := J138.up h_o0
          have z144 := (rv_c I0 J138 (I0.up h_o0) (k := 15) rfl)
          have z145 := (rv_c I0 J138 (I0.up h_o0) (k := 16) rfl)
          have z146 := (rv_c I0 J138 (I0.up h_o0) (k := 17) rfl)
          have z147 := (rv_c I0 J138 (I0.up h_o0) (k := 22) rfl)
          have z148 := (rv_c I0 J138 (I0.up h_o0) (k := 24) rfl)
          have z149 := (ra_call I0 J138 (I0.up h_o0) (k := 5) rfl rfl rfl 44)
          have z150 := (ra_call I0 J138 (I0.up h_o0) (k := 6) rfl rfl rfl 44)
          have E151 : rE M0 M135 o0 0 0 := yE0.fails (rE_hv I0 J138 (I0.up h_o0) 15 18 (by decide)) (rE_ha I0 J138 (I0.up h_o0) (by decide)) f142 0 0
          have q152 := J138.keep h_o0 (by decide) q101
          have q153 := J138.keep h_o0 (by decide) q106
          refine mv_aload_n d_TrustDeskModel_number_47 rfl rfl ?_
          obtain ⟨_, b154, -⟩ := I139.1 _ _ t143
          refine mv_callV (kc1 := 0) (ks1 := 0) (kc' := 0) (ks' := 0) (As := []) (st9 := [.ref o0]) d_TrustDeskModel_number_48 lV_TrustDeskModel_230 b154 rfl (mj_enter (by decide) (Nat.le_of_ble_eq_true rfl) ?_) rfl (Nat.le_of_ble_eq_true rfl) (Nat.le_of_ble_eq_true rfl) (Nat.le_of_ble_eq_true rfl) (hst := rfl) (fun _ _ _ h => h)
          refine mv_aload_n d_TrustDeskModel_isWell_0 rfl rfl ?_
          obtain ⟨v156, q155⟩ := tm_atI I139 t143 (k := 19) rfl
          refine tr_getK q155 d_TrustDeskModel_isWell_1 f_TrustDeskModel_224_13 ?_
          have := R141.f (k := 19) q155 rfl
          have := tm_rv q155
          refine mv_if_neZ (tgt := 11) (a := v156.toInt) d_TrustDeskModel_isWell_4 (by decide) rfl (fun b157 => ?_) (fun b157 => ?_)
          · refine mv_iconst (v := 0) d_TrustDeskModel_isWell_11 (by decide) ?_
            refine mv_iret d_TrustDeskModel_isWell_12 rfl (by decide) ?_
            refine mv_if_ne_f (tgt := 56) d_TrustDeskModel_number_51 (by decide) (by decide) ?_
            refine mv_iconst (v := 0) d_TrustDeskModel_number_54 (by decide) ?_
            exact mv_iret d_TrustDeskModel_number_55 rfl (by first | rfl | decide) ⟨_, I139, _, rfl, R141, E151.vac (by have := R141.1 15 _ _ rfl; have := R141.1 16 _ _ rfl; have := R141.1 19 _ _ rfl; omega) 0 1, (Or.inl (by decide))⟩
          · exfalso
            have := R141.1 15 _ _ rfl; have := R141.1 16 _ _ rfl; have := R141.1 19 _ _ rfl; omega
        · refine mv_iconst (v := 1) d_TrustDeskModel_within_13 (by decide) ?_
          refine mv_goto (tgt := 18) d_TrustDeskModel_within_14 (by decide) ?_
          refine mv_iret d_TrustDeskModel_within_18 rfl (by decide) ?_
          refine mv_if_ne_t (tgt := 47) d_TrustDeskModel_number_39 (by decide) (by decide) ?_
          refine mv_aload_n d_TrustDeskModel_number_47 rfl rfl ?_
          obtain ⟨_, b158, -⟩ := I0.1 _ _ h_o0
          refine mv_callV (kc1 := 0) (ks1 := 0) (kc' := 0) (ks' := 0) (As := []) (st9 := [.ref o0]) d_TrustDeskModel_number_48 lV_TrustDeskModel_230 b158 rfl (mj_enter (by decide) (Nat.le_of_ble_eq_true rfl) ?_) rfl (Nat.le_of_ble_eq_true rfl) (Nat.le_of_ble_eq_true rfl) (Nat.le_of_ble_eq_true rfl) (hst := rfl) (fun _ _ _ h => h)
          refine mv_aload_n d_TrustDeskModel_isWell_0 rfl rfl ?_
          refine tr_getK (k := 19) q2 d_TrustDeskModel_isWell_1 f_TrustDeskModel_224_13 ?_
          have := mz_hi v3
          refine mv_if_neZ (tgt := 11) (a := v3.toInt) d_TrustDeskModel_isWell_4 (by decide) rfl (fun b159 => absurd b159 (by omega)) (fun b159 => ?_)
          refine mv_iconst (v := 1) d_TrustDeskModel_isWell_7 (by decide) ?_
          refine mv_goto (tgt := 12) d_TrustDeskModel_isWell_8 (by decide) ?_
          refine mv_iret d_TrustDeskModel_isWell_12 rfl (by decide) ?_
          refine mv_if_ne_t (tgt := 56) d_TrustDeskModel_number_51 (by decide) (by decide) ?_
          refine mv_aload_n d_TrustDeskModel_number_56 rfl rfl ?_
          refine tr_getK (k := 18) q106 d_TrustDeskModel_number_57 f_TrustDeskModel_201_13 ?_
          refine mv_istore_n (lv' := [(3, .int v107), (0, .ref o0), (1, .int x1), (2, .int x2)]) d_TrustDeskModel_number_60 rfl (by decide) rfl ?_
          refine mv_aload_n d_TrustDeskModel_number_61 rfl rfl ?_
          obtain ⟨_, b166, -⟩ := I0.1 _ _ h_o0
          refine mv_callV (kc' := 0) (ks' := 0) (As := []) (st9 := [.ref o0]) d_TrustDeskModel_number_62 lV_TrustDeskModel_237 b166 rfl (tc_TrustDeskModel_next_x (d := d) (x9 := x9) (o0 := o0) h_o0 yR I0.start) rfl (Nat.le_of_ble_eq_true rfl) (Nat.le_of_ble_eq_true rfl) (Nat.le_of_ble_eq_true rfl) (hst := rfl) (fun b160r M161 n162 b160 => ?_)
          obtain ⟨T163, J164, rfl, R167, f168, f169⟩ := b160
          have I165 := I0.call J164 (tm_sub (by decide)) (Or.inl rfl)
          have t170 := J164.up h_o0
          have z171 := (rv_c I0 J164 (I0.up h_o0) (k := 19) rfl)
          have z172 := (rv_c I0 J164 (I0.up h_o0) (k := 22) rfl)
          have z173 := (rv_c I0 J164 (I0.up h_o0) (k := 24) rfl)
          have z174 := (ra_call I0 J164 (I0.up h_o0) (k := 5) rfl rfl rfl 44)
          have z175 := (ra_call I0 J164 (I0.up h_o0) (k := 6) rfl rfl rfl 44)
          have h177 : rv M0 o0 16 + 1 ≤ rv M0 o0 15 := (by have := yE0.1.2.1 (by omega); omega)
          have E176 : rE M0 M161 o0 0 1 := yE0.next f168 f169 (rv_c I0 J164 (I0.up h_o0) (k := 19) rfl) (rE_ha I0 J164 (I0.up h_o0) (by decide)) (e := 1) h177 (by decide)
          have q178 := J164.keep h_o0 (by decide) q2
          refine mv_iload_n d_TrustDeskModel_number_65 rfl rfl ?_
          exact mv_iret d_TrustDeskModel_number_66 rfl (by first | rfl | decide) ⟨_, I165, _, rfl, R167, E176, (Or.inr (by have := R167.1 15 _ _ rfl; have := R167.1 16 _ _ rfl; have := R167.1 19 _ _ rfl; omega))⟩
    · refine mv_aload_n d_TrustDeskModel_number_15 rfl rfl ?_
      refine mv_iconst (v := 1) d_TrustDeskModel_number_16 (by decide) ?_
      obtain ⟨_, b185, -⟩ := I0.1 _ _ h_o0
      have : (1 : Int32).toInt = 1 := by decide
      refine mv_callV (kc' := 0) (ks' := 0) (As := [.int 1]) (st9 := [.int 1, .ref o0]) d_TrustDeskModel_number_17 lV_TrustDeskModel_240 b185 rfl (tc_TrustDeskModel_fails_x (d := (d + 1)) (x9 := x9) (o0 := o0) (x1 := 1) h_o0 yR (by decide) I0.start) rfl (Nat.le_of_ble_eq_true rfl) (Nat.le_of_ble_eq_true rfl) (Nat.le_of_ble_eq_true rfl) (hst := rfl) (fun b179r M180 n181 b179 => ?_)
      obtain ⟨T182, J183, rfl, R186, f187⟩ := b179
      have I184 := I0.call J183 (tm_sub (by decide)) (Or.inl rfl)
      have t188 := J183.up h_o0
      have z189 := (rv_c I0 J183 (I0.up h_o0) (k := 15) rfl)
      have z190 := (rv_c I0 J183 (I0.up h_o0) (k := 16) rfl)
      have z191 := (rv_c I0 J183 (I0.up h_o0) (k := 17) rfl)
      have z192 := (rv_c I0 J183 (I0.up h_o0) (k := 22) rfl)
      have z193 := (rv_c I0 J183 (I0.up h_o0) (k := 24) rfl)
      have z194 := (ra_call I0 J183 (I0.up h_o0) (k := 5) rfl rfl rfl 44)
      have z195 := (ra_call I0 J183 (I0.up h_o0) (k := 6) rfl rfl rfl 44)
      have E196 : rE M0 M180 o0 0 0 := yE0.fails (rE_hv I0 J183 (I0.up h_o0) 15 18 (by decide)) (rE_ha I0 J183 (I0.up h_o0) (by decide)) f187 0 0
      have q197 := J183.keep h_o0 (by decide) q101
      refine mv_aload_n d_TrustDeskModel_number_20 rfl rfl ?_
      obtain ⟨_, b198, -⟩ := I184.1 _ _ t188
      refine mv_callV (kc1 := 0) (ks1 := 0) (kc' := 0) (ks' := 0) (As := []) (st9 := [.ref o0]) d_TrustDeskModel_number_21 lV_TrustDeskModel_230 b198 rfl (mj_enter (by decide) (Nat.le_of_ble_eq_true rfl) ?_) rfl (Nat.le_of_ble_eq_true rfl) (Nat.le_of_ble_eq_true rfl) (Nat.le_of_ble_eq_true rfl) (hst := rfl) (fun _ _ _ h => h)
      refine mv_aload_n d_TrustDeskModel_isWell_0 rfl rfl ?_
      obtain ⟨v200, q199⟩ := tm_atI I184 t188 (k := 19) rfl
      refine tr_getK q199 d_TrustDeskModel_isWell_1 f_TrustDeskModel_224_13 ?_
      have := R186.f (k := 19) q199 rfl
      have := tm_rv q199
      refine mv_if_neZ (tgt := 11) (a := v200.toInt) d_TrustDeskModel_isWell_4 (by decide) rfl (fun b201 => ?_) (fun b201 => ?_)
      · refine mv_iconst (v := 0) d_TrustDeskModel_isWell_11 (by decide) ?_
        refine mv_iret d_TrustDeskModel_isWell_12 rfl (by decide) ?_
        refine mv_if_eq_t (tgt := 47) d_TrustDeskModel_number_24 (by decide) (by decide) ?_
        refine mv_aload_n d_TrustDeskModel_number_47 rfl rfl ?_
        obtain ⟨_, b202, -⟩ := I184.1 _ _ t188
        refine mv_callV (kc1 := 0) (ks1 := 0) (kc' := 0) (ks' := 0) (As := []) (st9 := [.ref o0]) d_TrustDeskModel_number_48 lV_TrustDeskModel_230 b202 rfl (mj_enter (by decide) (Nat.le_of_ble_eq_true rfl) ?_) rfl (Nat.le_of_ble_eq_true rfl) (Nat.le_of_ble_eq_true rfl) (Nat.le_of_ble_eq_true rfl) (hst := rfl) (fun _ _ _ h => h)
        refine mv_aload_n d_TrustDeskModel_isWell_0 rfl rfl ?_
        refine tr_getK (k := 19) q199 d_TrustDeskModel_isWell_1 f_TrustDeskModel_224_13 ?_
        refine mv_if_neZ (tgt := 11) (a := v200.toInt) d_TrustDeskModel_isWell_4 (by decide) rfl (fun b203 => ?_) (fun b203 => ?_)
        · refine mv_iconst (v := 0) d_TrustDeskModel_isWell_11 (by decide) ?_
          refine mv_iret d_TrustDeskModel_isWell_12 rfl (by decide) ?_
          refine mv_if_ne_f (tgt := 56) d_TrustDeskModel_number_51 (by decide) (by decide) ?_
          refine mv_iconst (v := 0) d_TrustDeskModel_number_54 (by decide) ?_
          exact mv_iret d_TrustDeskModel_number_55 rfl (by first | rfl | decide) ⟨_, I184, _, rfl, R186, E196.vac (by have := R186.1 15 _ _ rfl; have := R186.1 16 _ _ rfl; have := R186.1 19 _ _ rfl; omega) 0 1, (Or.inl (by decide))⟩
        · exfalso
          have := R186.1 15 _ _ rfl; have := R186.1 16 _ _ rfl; have := R186.1 19 _ _ rfl; omega
      · exfalso
        have := R186.1 15 _ _ rfl; have := R186.1 16 _ _ rfl; have := R186.1 19 _ _ rfl; omega
abbrev kY_TrustDeskModel_begin : mj_Y := (⟨"TrustDeskModel", "begin", "(I)I"⟩, prog_14_method_34_code, 3, (Option.some Jvm.ClassFile.FieldType.int))
theorem d_TrustDeskModel_begin_0 : decode kY_TrustDeskModel_begin.2.1 0 = .ok (.sipush 880, 3) := by decide +kernel
theorem d_TrustDeskModel_begin_3 : decode kY_TrustDeskModel_begin.2.1 3 = .ok (.aload_n 0, 1) := by decide +kernel
theorem d_TrustDeskModel_begin_4 : decode kY_TrustDeskModel_begin.2.1 4 = .ok (.getfield 23, 3) := by decide +kernel
theorem f_TrustDeskModel_23_13 : mj_fl "TrustDeskModel" 23 13 6 := ⟨kR_TrustDeskModel, kF_TrustDeskModel, 72, "TrustDeskModel", rfl, kg_13, by decide, (mj_in1 (List.mem_of_getElem? (i := 1392) (by decide +kernel)) rfl), Or.inl rfl⟩
theorem d_TrustDeskModel_begin_7 : decode kY_TrustDeskModel_begin.2.1 7 = .ok (.bipush 44, 2) := by decide +kernel
theorem d_TrustDeskModel_begin_9 : decode kY_TrustDeskModel_begin.2.1 9 = .ok (.iaload, 1) := by decide +kernel
theorem d_TrustDeskModel_begin_10 : decode kY_TrustDeskModel_begin.2.1 10 = .ok (.iadd, 1) := by decide +kernel
theorem d_TrustDeskModel_begin_11 : decode kY_TrustDeskModel_begin.2.1 11 = .ok (.istore_n 2, 1) := by decide +kernel
theorem d_TrustDeskModel_begin_12 : decode kY_TrustDeskModel_begin.2.1 12 = .ok (.aload_n 0, 1) := by decide +kernel
theorem d_TrustDeskModel_begin_13 : decode kY_TrustDeskModel_begin.2.1 13 = .ok (.getfield 23, 3) := by decide +kernel
theorem d_TrustDeskModel_begin_16 : decode kY_TrustDeskModel_begin.2.1 16 = .ok (.bipush 44, 2) := by decide +kernel
theorem d_TrustDeskModel_begin_18 : decode kY_TrustDeskModel_begin.2.1 18 = .ok (.dup2, 1) := by decide +kernel
theorem d_TrustDeskModel_begin_19 : decode kY_TrustDeskModel_begin.2.1 19 = .ok (.iaload, 1) := by decide +kernel
theorem d_TrustDeskModel_begin_20 : decode kY_TrustDeskModel_begin.2.1 20 = .ok (.iconst 1, 1) := by decide +kernel
theorem d_TrustDeskModel_begin_21 : decode kY_TrustDeskModel_begin.2.1 21 = .ok (.iadd, 1) := by decide +kernel
theorem d_TrustDeskModel_begin_22 : decode kY_TrustDeskModel_begin.2.1 22 = .ok (.iastore, 1) := by decide +kernel
theorem d_TrustDeskModel_begin_23 : decode kY_TrustDeskModel_begin.2.1 23 = .ok (.aload_n 0, 1) := by decide +kernel
theorem d_TrustDeskModel_begin_24 : decode kY_TrustDeskModel_begin.2.1 24 = .ok (.getfield 26, 3) := by decide +kernel
theorem f_TrustDeskModel_26_13 : mj_fl "TrustDeskModel" 26 13 7 := ⟨kR_TrustDeskModel, kF_TrustDeskModel, 72, "TrustDeskModel", rfl, kg_13, by decide, (mj_in1 (List.mem_of_getElem? (i := 1393) (by decide +kernel)) rfl), Or.inl rfl⟩
theorem d_TrustDeskModel_begin_27 : decode kY_TrustDeskModel_begin.2.1 27 = .ok (.iload_n 2, 1) := by decide +kernel
theorem d_TrustDeskModel_begin_28 : decode kY_TrustDeskModel_begin.2.1 28 = .ok (.iload_n 1, 1) := by decide +kernel
theorem d_TrustDeskModel_begin_29 : decode kY_TrustDeskModel_begin.2.1 29 = .ok (.iastore, 1) := by decide +kernel
theorem d_TrustDeskModel_begin_30 : decode kY_TrustDeskModel_begin.2.1 30 = .ok (.aload_n 0, 1) := by decide +kernel
theorem d_TrustDeskModel_begin_31 : decode kY_TrustDeskModel_begin.2.1 31 = .ok (.getfield 35, 3) := by decide +kernel
theorem f_TrustDeskModel_35_13 : mj_fl "TrustDeskModel" 35 13 10 := ⟨kR_TrustDeskModel, kF_TrustDeskModel, 72, "TrustDeskModel", rfl, kg_13, by decide, (mj_in1 (List.mem_of_getElem? (i := 1396) (by decide +kernel)) rfl), Or.inl rfl⟩
theorem d_TrustDeskModel_begin_34 : decode kY_TrustDeskModel_begin.2.1 34 = .ok (.iload_n 2, 1) := by decide +kernel
theorem d_TrustDeskModel_begin_35 : decode kY_TrustDeskModel_begin.2.1 35 = .ok (.aload_n 0, 1) := by decide +kernel
theorem d_TrustDeskModel_begin_36 : decode kY_TrustDeskModel_begin.2.1 36 = .ok (.getfield 20, 3) := by decide +kernel
theorem d_TrustDeskModel_begin_39 : decode kY_TrustDeskModel_begin.2.1 39 = .ok (.bipush 44, 2) := by decide +kernel
theorem d_TrustDeskModel_begin_41 : decode kY_TrustDeskModel_begin.2.1 41 = .ok (.iaload, 1) := by decide +kernel
theorem d_TrustDeskModel_begin_42 : decode kY_TrustDeskModel_begin.2.1 42 = .ok (.iastore, 1) := by decide +kernel
theorem d_TrustDeskModel_begin_43 : decode kY_TrustDeskModel_begin.2.1 43 = .ok (.aload_n 0, 1) := by decide +kernel
theorem d_TrustDeskModel_begin_44 : decode kY_TrustDeskModel_begin.2.1 44 = .ok (.invokevirtual 237, 3) := by decide +kernel
theorem d_TrustDeskModel_begin_47 : decode kY_TrustDeskModel_begin.2.1 47 = .ok (.iload_n 2, 1) := by decide +kernel
theorem d_TrustDeskModel_begin_48 : decode kY_TrustDeskModel_begin.2.1 48 = .ok (.ireturn, 1) := by decide +kernel
def w_TrustDeskModel_begin_x : List Nat := [1315, 1316, 1317, 1318, 20006, 20007, 20010]
set_option maxHeartbeats 100000000 in theorem tc_TrustDeskModel_begin_x {g : mj_G} {l : Launch} {d : Nat} {T0 : tm_H} {M0 : mj_M} {n0 x9 : Nat} {o0 : Nat} {x1 : Int32} (h_o0 : T0 o0 = some (0, 13, 0)) (yR : rI M0 o0) (yT : rT M0 o0) (yS : rv M0 o0 19 = 0 → ra M0 o0 5 44 ≤ rv M0 o0 16) (yw : rv M0 o0 19 = 0) (yo : rv M0 o0 17 ≠ 0) (ym : ra M0 o0 6 44 ≤ 19) (I0 : tm_I tm_FT (tm_in w_TrustDeskModel_begin_x) x9 T0 M0 n0 T0 M0 n0) : mj_Met g l kY_TrustDeskModel_begin (d + 2) [.ref o0, .int x1] M0 n0 0 0 (tm_Q tm_FT (tm_in w_TrustDeskModel_begin_x) x9 T0 M0 n0 (fun r _ M => ∃ v : Int32, r = some (.int v) ∧ rI M o0 ∧ (rE M0 M o0 0 1) ∧ (v.toInt = 880 + ra M0 o0 6 44) ∧ (ra M o0 6 44 = ra M0 o0 6 44 + 1) ∧ (ra M o0 7 (880 + ra M0 o0 6 44).toNat = x1.toInt) ∧ (ra M o0 10 (880 + ra M0 o0 6 44).toNat = ra M0 o0 5 44) ∧ (rK M0 M o0 (880 + ra M0 o0 6 44).toNat))) := by
  refine mj_enter (by decide) (Nat.le_of_ble_eq_true rfl) ?_
  have yE0 := rE.rf yT
  have K1 : rK M0 M0 o0 ((880 + ra M0 o0 6 44).toNat) := rK.rf
  refine mv_sipush (v := 880) d_TrustDeskModel_begin_0 (by decide) ?_
  refine mv_aload_n d_TrustDeskModel_begin_3 rfl rfl ?_
  obtain ⟨a3, q2, t_a3⟩ := tm_atR I0 h_o0 (k := 6) rfl
  refine tr_getK q2 d_TrustDeskModel_begin_4 f_TrustDeskModel_23_13 ?_
  refine mv_bipush (v := 44) d_TrustDeskModel_begin_7 (by decide) ?_
  refine tr_ialdR (o := o0) (k := 6) I0 q2 t_a3 (by decide) d_TrustDeskModel_begin_9 (by unfold vp_in; decide) (fun v4 e5 => ?_)
  have := yR.a (k := 6) rfl (44 : Int32).toNatClampNeg
  have : v4.toInt = ra M0 o0 6 44 := e5
  refine mv_iadd d_TrustDeskModel_begin_10 ?_
  refine mv_istore_n (lv' := [(2, .int (880 + v4)), (0, .ref o0), (1, .int x1)]) d_TrustDeskModel_begin_11 rfl (by decide) rfl ?_
  refine mv_aload_n d_TrustDeskModel_begin_12 rfl rfl ?_
  refine tr_getK (k := 6) q2 d_TrustDeskModel_begin_13 f_TrustDeskModel_23_13 ?_
  refine mv_bipush (v := 44) d_TrustDeskModel_begin_16 (by decide) ?_
  refine mv_dup2_11 d_TrustDeskModel_begin_18 rfl rfl ?_
  refine tr_ialdR (o := o0) (k := 6) I0 q2 t_a3 (by decide) d_TrustDeskModel_begin_19 (by unfold vp_in; decide) (fun v6 e7 => ?_)
  have := yR.a (k := 6) rfl (44 : Int32).toNatClampNeg
  have : v6.toInt = ra M0 o0 6 44 := e7
  refine mv_iconst (v := 1) d_TrustDeskModel_begin_20 (by decide) ?_
  refine mv_iadd d_TrustDeskModel_begin_21 ?_
  have b8 : (v6 + 1 : Int32).toInt = (v6.toInt + 1) := mz_add2 rfl (by decide) (by have := yR.1 15 _ _ rfl; have := yR.1 16 _ _ rfl; have := yR.1 19 _ _ rfl; omega) (by have := yR.1 15 _ _ rfl; have := yR.1 16 _ _ rfl; have := yR.1 19 _ _ rfl; omega)
  refine tr_iastR (k := 6) I0 yR (I0.up h_o0) q2 t_a3 (by decide) (by decide) (fun lo hi h => by cases h; have := yR.1 15 _ _ rfl; have := yR.1 16 _ _ rfl; have := yR.1 19 _ _ rfl; exact ⟨by show (0 : Int) ≤ (v6 + 1).toInt; omega, by show (v6 + 1).toInt ≤ (20 : Int); omega⟩) (Or.inl (by decide)) d_TrustDeskModel_begin_22 (by unfold vp_in; decide) (fun M9 I10 K11 R12 E13 A14 V15 => ?_)
  have z16 := (V15 15)
  have z17 := (V15 16)
  have z18 := (V15 17)
  have z19 := (V15 19)
  have z20 := (V15 22)
  have z21 := (V15 24)
  have z22 := (A14 5 (by decide) rfl 44)
  have z23 : ra M9 o0 6 44 = (v6 + 1).toInt := (E13 44).trans (if_pos (by decide))
  have E24 : rE M0 M9 o0 0 0 := yE0.same (fun k _ _ => V15 k) (fun k h1 h2 => A14 k (by omega) (by rcases (show k = 4 ∨ k = 5 by omega) with rfl | rfl <;> rfl))
  have K25 : rK M0 M9 o0 ((880 + ra M0 o0 6 44).toNat) := K1.same (sA_a A14 (by decide))
  refine mv_aload_n d_TrustDeskModel_begin_23 rfl rfl ?_
  obtain ⟨a27, q26, t_a27⟩ := tm_atR I10 h_o0 (k := 7) rfl
  refine tr_getK q26 d_TrustDeskModel_begin_24 f_TrustDeskModel_26_13 ?_
  refine mv_iload_n d_TrustDeskModel_begin_27 rfl rfl ?_
  refine mv_iload_n d_TrustDeskModel_begin_28 rfl rfl ?_
  have b28 : (880 + v4 : Int32).toInt = (880 + v4.toInt) := mz_add2 (by decide) rfl (by have := R12.1 15 _ _ rfl; have := R12.1 16 _ _ rfl; have := R12.1 19 _ _ rfl; omega) (by have := R12.1 15 _ _ rfl; have := R12.1 16 _ _ rfl; have := R12.1 19 _ _ rfl; omega)
  refine tr_iastR (k := 7) I10 R12 (I10.up h_o0) q26 t_a27 (by decide) (by decide) (fun lo hi h => by cases h) (Or.inl (by decide)) d_TrustDeskModel_begin_29 (vp_in_iff.mpr (by have := R12.1 15 _ _ rfl; have := R12.1 16 _ _ rfl; have := R12.1 19 _ _ rfl; omega)) (fun M29 I30 K31 R32 E33 A34 V35 => ?_)
  have z36 := (V35 15).trans z16
  have z37 := (V35 16).trans z17
  have z38 := (V35 17).trans z18
  have z39 := (V35 19).trans z19
  have z40 := (V35 22).trans z20
  have z41 := (V35 24).trans z21
  have z42 := (A34 5 (by decide) rfl 44).trans z22
  have z43 := (A34 6 (by decide) rfl 44).trans z23
  have E44 : rE M0 M29 o0 0 0 := E24.same (fun k _ _ => V35 k) (fun k h1 h2 => A34 k (by omega) (by rcases (show k = 4 ∨ k = 5 by omega) with rfl | rfl <;> rfl))
  have h45 : (880 + ra M0 o0 6 44).toNat = (880 + v4).toNatClampNeg := by have := mz_nat9 (i := (880 + v4)) (by have := R12.1 15 _ _ rfl; have := R12.1 16 _ _ rfl; have := R12.1 19 _ _ rfl; omega); have := R12.1 15 _ _ rfl; have := R12.1 16 _ _ rfl; have := R12.1 19 _ _ rfl; omega
  have z46 : ra M29 o0 7 ((880 + ra M0 o0 6 44).toNat) = x1.toInt := (E33 _).trans (if_pos h45)
  have K47 : rK M0 M29 o0 ((880 + ra M0 o0 6 44).toNat) := K25.st A34 E33 (by have := mz_nat9 (i := (880 + v4)) (by have := R12.1 15 _ _ rfl; have := R12.1 16 _ _ rfl; have := R12.1 19 _ _ rfl; omega); have := R12.1 15 _ _ rfl; have := R12.1 16 _ _ rfl; have := R12.1 19 _ _ rfl; omega)
  clear z16 z17 z18 z19 z20 z21 z22 z23
  refine mv_aload_n d_TrustDeskModel_begin_30 rfl rfl ?_
  obtain ⟨a49, q48, t_a49⟩ := tm_atR I30 h_o0 (k := 10) rfl
  refine tr_getK q48 d_TrustDeskModel_begin_31 f_TrustDeskModel_35_13 ?_
  refine mv_iload_n d_TrustDeskModel_begin_34 rfl rfl ?_
  refine mv_aload_n d_TrustDeskModel_begin_35 rfl rfl ?_
  obtain ⟨a51, q50, t_a51⟩ := tm_atR I30 h_o0 (k := 5) rfl
  refine tr_getK q50 d_TrustDeskModel_begin_36 f_TrustDeskModel_20_13 ?_
  refine mv_bipush (v := 44) d_TrustDeskModel_begin_39 (by decide) ?_
  refine tr_ialdR (o := o0) (k := 5) I30 q50 t_a51 (by decide) d_TrustDeskModel_begin_41 (by unfold vp_in; decide) (fun v52 e53 => ?_)
  have := R32.a (k := 5) rfl (44 : Int32).toNatClampNeg
  have : v52.toInt = ra M29 o0 5 44 := e53
  have : v52.toInt = _ := Eq.trans e53 z42
  have b54 : (880 + v4 : Int32).toInt = (880 + v4.toInt) := mz_add2 (by decide) rfl (by have := R32.1 15 _ _ rfl; have := R32.1 16 _ _ rfl; have := R32.1 19 _ _ rfl; omega) (by have := R32.1 15 _ _ rfl; have := R32.1 16 _ _ rfl; have := R32.1 19 _ _ rfl; omega)
  refine tr_iastR (k := 10) I30 R32 (I30.up h_o0) q48 t_a49 (by decide) (by decide) (fun lo hi h => by cases h; have := R32.1 15 _ _ rfl; have := R32.1 16 _ _ rfl; have := R32.1 19 _ _ rfl; exact ⟨by show (0 : Int) ≤ v52.toInt; omega, by show v52.toInt ≤ (400 : Int); omega⟩) (Or.inl (by decide)) d_TrustDeskModel_begin_42 (vp_in_iff.mpr (by have := R32.1 15 _ _ rfl; have := R32.1 16 _ _ rfl; have := R32.1 19 _ _ rfl; omega)) (fun M55 I56 K57 R58 E59 A60 V61 => ?_)
  have z62 := (V61 15).trans z36
  have z63 := (V61 16).trans z37
  have z64 := (V61 17).trans z38
  have z65 := (V61 19).trans z39
  have z66 := (V61 22).trans z40
  have z67 := (V61 24).trans z41
  have z68 := (A60 5 (by decide) rfl 44).trans z42
  have z69 := (A60 6 (by decide) rfl 44).trans z43
  have z70 := (A60 7 (by decide) rfl ((880 + ra M0 o0 6 44).toNat)).trans z46
  have E71 : rE M0 M55 o0 0 0 := E44.same (fun k _ _ => V61 k) (fun k h1 h2 => A60 k (by omega) (by rcases (show k = 4 ∨ k = 5 by omega) with rfl | rfl <;> rfl))
  have h72 : (880 + ra M0 o0 6 44).toNat = (880 + v4).toNatClampNeg := by have := mz_nat9 (i := (880 + v4)) (by have := R32.1 15 _ _ rfl; have := R32.1 16 _ _ rfl; have := R32.1 19 _ _ rfl; omega); have := R32.1 15 _ _ rfl; have := R32.1 16 _ _ rfl; have := R32.1 19 _ _ rfl; omega
  have z73 : ra M55 o0 10 ((880 + ra M0 o0 6 44).toNat) = v52.toInt := (E59 _).trans (if_pos h72)
  have K74 : rK M0 M55 o0 ((880 + ra M0 o0 6 44).toNat) := K47.st A60 E59 (by have := mz_nat9 (i := (880 + v4)) (by have := R32.1 15 _ _ rfl; have := R32.1 16 _ _ rfl; have := R32.1 19 _ _ rfl; omega); have := R32.1 15 _ _ rfl; have := R32.1 16 _ _ rfl; have := R32.1 19 _ _ rfl; omega)
  clear z36 z37 z38 z39 z40 z41 z42 z43 z46
  refine mv_aload_n d_TrustDeskModel_begin_43 rfl rfl ?_
  obtain ⟨_, b81, -⟩ := I56.1 _ _ h_o0
  refine mv_callV (kc' := 0) (ks' := 0) (As := []) (st9 := [.ref o0]) d_TrustDeskModel_begin_44 lV_TrustDeskModel_237 b81 rfl (tc_TrustDeskModel_next_x (d := d) (x9 := x9) (o0 := o0) h_o0 R58 I56.start) rfl (Nat.le_of_ble_eq_true rfl) (Nat.le_of_ble_eq_true rfl) (Nat.le_of_ble_eq_true rfl) (hst := rfl) (fun b75r M76 n77 b75 => ?_)
  obtain ⟨T78, J79, rfl, R82, f83, f84⟩ := b75
  have I80 := I56.call J79 (tm_sub (by decide)) (Or.inl rfl)
  have t85 := J79.up h_o0
  have z86 := (rv_c I56 J79 (I56.up h_o0) (k := 19) rfl).trans z65
  have z87 := (rv_c I56 J79 (I56.up h_o0) (k := 22) rfl).trans z66
  have z88 := (rv_c I56 J79 (I56.up h_o0) (k := 24) rfl).trans z67
  have z89 := (ra_call I56 J79 (I56.up h_o0) (k := 5) rfl rfl rfl 44).trans z68
  have z90 := (ra_call I56 J79 (I56.up h_o0) (k := 6) rfl rfl rfl 44).trans z69
  have z91 := (ra_call I56 J79 (I56.up h_o0) (k := 7) rfl rfl rfl ((880 + ra M0 o0 6 44).toNat)).trans z70
  have z92 := (ra_call I56 J79 (I56.up h_o0) (k := 10) rfl rfl rfl ((880 + ra M0 o0 6 44).toNat)).trans z73
  have h94 : rv M55 o0 16 + 1 ≤ rv M55 o0 15 := (by have := E71.1.2.1 (by omega); omega)
  have E93 : rE M0 M76 o0 0 1 := E71.next f83 f84 (rv_c I56 J79 (I56.up h_o0) (k := 19) rfl) (rE_ha I56 J79 (I56.up h_o0) (by decide)) (e := 1) h94 (by decide)
  have K95 : rK M0 M76 o0 ((880 + ra M0 o0 6 44).toNat) := K74.same (sA_c I56 J79 (I56.up h_o0) (by decide))
  clear z65 z66 z67 z68 z69 z70 z73
  have q96 := J79.keep h_o0 (by decide) (K57 _ 13 6 _ (K31 _ 13 6 _ (K11 _ 13 6 _ q2)))
  have t97 := J79.up t_a3
  have q98 := J79.keep h_o0 (by decide) (K57 _ 13 7 _ (K31 _ 13 7 _ q26))
  have t99 := J79.up t_a27
  have q100 := J79.keep h_o0 (by decide) (K57 _ 13 10 _ q48)
  have t101 := J79.up t_a49
  have q102 := J79.keep h_o0 (by decide) (K57 _ 13 5 _ q50)
  have t103 := J79.up t_a51
  refine mv_iload_n d_TrustDeskModel_begin_47 rfl rfl ?_
  exact mv_iret d_TrustDeskModel_begin_48 rfl (by first | rfl | decide) ⟨_, I80, _, rfl, R82, E93, (by have := R82.1 15 _ _ rfl; have := R82.1 16 _ _ rfl; have := R82.1 19 _ _ rfl; omega), (by have := R82.1 15 _ _ rfl; have := R82.1 16 _ _ rfl; have := R82.1 19 _ _ rfl; omega), (by have := R82.1 15 _ _ rfl; have := R82.1 16 _ _ rfl; have := R82.1 19 _ _ rfl; omega), (by have := R82.1 15 _ _ rfl; have := R82.1 16 _ _ rfl; have := R82.1 19 _ _ rfl; omega), K95⟩
abbrev kY_TrustDeskModel_readMarks : mj_Y := (⟨"TrustDeskModel", "readMarks", "(I)V"⟩, prog_14_method_35_code, 3, (Option.none : Option Jvm.ClassFile.FieldType))
theorem d_TrustDeskModel_readMarks_0 : decode kY_TrustDeskModel_readMarks.2.1 0 = .ok (.iconst 1, 1) := by decide +kernel
theorem d_TrustDeskModel_readMarks_1 : decode kY_TrustDeskModel_readMarks.2.1 1 = .ok (.aload_n 0, 1) := by decide +kernel
theorem d_TrustDeskModel_readMarks_2 : decode kY_TrustDeskModel_readMarks.2.1 2 = .ok (.iconst 0, 1) := by decide +kernel
theorem d_TrustDeskModel_readMarks_3 : decode kY_TrustDeskModel_readMarks.2.1 3 = .ok (.bipush 7, 2) := by decide +kernel
theorem d_TrustDeskModel_readMarks_5 : decode kY_TrustDeskModel_readMarks.2.1 5 = .ok (.invokevirtual 317, 3) := by decide +kernel
theorem lV_TrustDeskModel_317 : mj_lV "TrustDeskModel" 317 kY_TrustDeskModel_number 2 := ⟨⟨(mj_in1 (List.mem_of_getElem? (i := 1768) (by decide +kernel)) rfl), (mj_in1 (List.mem_of_getElem? (i := 10) (by decide +kernel)) rfl), (mj_in1 (List.mem_of_getElem? (i := 1771) (by decide +kernel)) rfl), by decide, rfl, by decide⟩, (mj_in1 (List.mem_of_getElem? (i := 1770) (by decide +kernel)) rfl), (mj_in (List.mem_append_left _ (List.mem_of_getElem? (i := 102) (by decide +kernel))) rfl)⟩
theorem d_TrustDeskModel_readMarks_8 : decode kY_TrustDeskModel_readMarks.2.1 8 = .ok (.ishl, 1) := by decide +kernel
theorem d_TrustDeskModel_readMarks_9 : decode kY_TrustDeskModel_readMarks.2.1 9 = .ok (.istore_n 2, 1) := by decide +kernel
theorem d_TrustDeskModel_readMarks_10 : decode kY_TrustDeskModel_readMarks.2.1 10 = .ok (.aload_n 0, 1) := by decide +kernel
theorem d_TrustDeskModel_readMarks_11 : decode kY_TrustDeskModel_readMarks.2.1 11 = .ok (.invokevirtual 230, 3) := by decide +kernel
theorem d_TrustDeskModel_readMarks_14 : decode kY_TrustDeskModel_readMarks.2.1 14 = .ok (.ifCond .eq 26, 3) := by decide +kernel
theorem d_TrustDeskModel_readMarks_40 : decode kY_TrustDeskModel_readMarks.2.1 40 = .ok (.aload_n 0, 1) := by decide +kernel
theorem d_TrustDeskModel_readMarks_41 : decode kY_TrustDeskModel_readMarks.2.1 41 = .ok (.getfield 29, 3) := by decide +kernel
theorem f_TrustDeskModel_29_13 : mj_fl "TrustDeskModel" 29 13 8 := ⟨kR_TrustDeskModel, kF_TrustDeskModel, 72, "TrustDeskModel", rfl, kg_13, by decide, (mj_in1 (List.mem_of_getElem? (i := 1394) (by decide +kernel)) rfl), Or.inl rfl⟩
theorem d_TrustDeskModel_readMarks_44 : decode kY_TrustDeskModel_readMarks.2.1 44 = .ok (.iload_n 1, 1) := by decide +kernel
theorem d_TrustDeskModel_readMarks_45 : decode kY_TrustDeskModel_readMarks.2.1 45 = .ok (.iload_n 2, 1) := by decide +kernel
theorem d_TrustDeskModel_readMarks_46 : decode kY_TrustDeskModel_readMarks.2.1 46 = .ok (.iastore, 1) := by decide +kernel
theorem d_TrustDeskModel_readMarks_47 : decode kY_TrustDeskModel_readMarks.2.1 47 = .ok (.return_, 1) := by decide +kernel
theorem d_TrustDeskModel_readMarks_17 : decode kY_TrustDeskModel_readMarks.2.1 17 = .ok (.aload_n 0, 1) := by decide +kernel
theorem d_TrustDeskModel_readMarks_18 : decode kY_TrustDeskModel_readMarks.2.1 18 = .ok (.getfield 198, 3) := by decide +kernel
theorem d_TrustDeskModel_readMarks_21 : decode kY_TrustDeskModel_readMarks.2.1 21 = .ok (.iconst 2, 1) := by decide +kernel
theorem d_TrustDeskModel_readMarks_22 : decode kY_TrustDeskModel_readMarks.2.1 22 = .ok (.if_icmp .ne 18, 3) := by decide +kernel
theorem d_TrustDeskModel_readMarks_25 : decode kY_TrustDeskModel_readMarks.2.1 25 = .ok (.iload_n 2, 1) := by decide +kernel
theorem d_TrustDeskModel_readMarks_26 : decode kY_TrustDeskModel_readMarks.2.1 26 = .ok (.iconst 1, 1) := by decide +kernel
theorem d_TrustDeskModel_readMarks_27 : decode kY_TrustDeskModel_readMarks.2.1 27 = .ok (.aload_n 0, 1) := by decide +kernel
theorem d_TrustDeskModel_readMarks_28 : decode kY_TrustDeskModel_readMarks.2.1 28 = .ok (.iconst 0, 1) := by decide +kernel
theorem d_TrustDeskModel_readMarks_29 : decode kY_TrustDeskModel_readMarks.2.1 29 = .ok (.bipush 7, 2) := by decide +kernel
theorem d_TrustDeskModel_readMarks_31 : decode kY_TrustDeskModel_readMarks.2.1 31 = .ok (.invokevirtual 317, 3) := by decide +kernel
theorem d_TrustDeskModel_readMarks_34 : decode kY_TrustDeskModel_readMarks.2.1 34 = .ok (.ishl, 1) := by decide +kernel
theorem d_TrustDeskModel_readMarks_35 : decode kY_TrustDeskModel_readMarks.2.1 35 = .ok (.ior, 1) := by decide +kernel
theorem d_TrustDeskModel_readMarks_36 : decode kY_TrustDeskModel_readMarks.2.1 36 = .ok (.istore_n 2, 1) := by decide +kernel
theorem d_TrustDeskModel_readMarks_37 : decode kY_TrustDeskModel_readMarks.2.1 37 = .ok (.goto (-27), 3) := by decide +kernel
def w_TrustDeskModel_readMarks_x : List Nat := [1315, 1316, 1317, 1318, 1319, 1320, 20008]
set_option maxHeartbeats 100000000 in theorem tc_TrustDeskModel_readMarks_x {g : mj_G} {l : Launch} {d : Nat} {T0 : tm_H} {M0 : mj_M} {n0 x9 : Nat} {o0 : Nat} {x1 : Int32} (h_o0 : T0 o0 = some (0, 13, 0)) (yR : rI M0 o0) (yT : rT M0 o0) (yS : rv M0 o0 19 = 0 → ra M0 o0 5 44 ≤ rv M0 o0 16) (yr : 880 ≤ x1.toInt ∧ x1.toInt ≤ 899) (I0 : tm_I tm_FT (tm_in w_TrustDeskModel_readMarks_x) x9 T0 M0 n0 T0 M0 n0) : mj_Met g l kY_TrustDeskModel_readMarks (d + 3) [.ref o0, .int x1] M0 n0 0 0 (tm_Q tm_FT (tm_in w_TrustDeskModel_readMarks_x) x9 T0 M0 n0 (fun r _ M => r = none ∧ rI M o0 ∧ (rE M0 M o0 0 0) ∧ (rK1 8 M0 M o0 x1.toNatClampNeg) ∧ (0 ≤ ra M o0 8 x1.toNatClampNeg))) := by
  refine mj_enter (by decide) (Nat.le_of_ble_eq_true rfl) ?_
  have yE0 := rE.rf yT
  have K1 : rK1 8 M0 M0 o0 x1.toNatClampNeg := rK1.rf
  refine mv_iconst (v := 1) d_TrustDeskModel_readMarks_0 (by decide) ?_
  refine mv_aload_n d_TrustDeskModel_readMarks_1 rfl rfl ?_
  refine mv_iconst (v := 0) d_TrustDeskModel_readMarks_2 (by decide) ?_
  refine mv_bipush (v := 7) d_TrustDeskModel_readMarks_3 (by decide) ?_
  obtain ⟨_, b8, -⟩ := I0.1 _ _ h_o0
  have : (0 : Int32).toInt = 0 := by decide
  have : (7 : Int32).toInt = 7 := by decide
  refine mv_callV (kc' := 0) (ks' := 0) (As := [.int 0, .int 7]) (st9 := [.int 7, .int 0, .ref o0, .int 1]) d_TrustDeskModel_readMarks_5 lV_TrustDeskModel_317 b8 rfl (tc_TrustDeskModel_number_x (d := d) (x9 := x9) (o0 := o0) (x1 := 0) (x2 := 7) h_o0 yR yE0.1 (yE0.s yS (by decide)) I0.start) rfl (Nat.le_of_ble_eq_true rfl) (Nat.le_of_ble_eq_true rfl) (Nat.le_of_ble_eq_true rfl) (hst := rfl) (fun b2r M3 n4 b2 => ?_)
  obtain ⟨T5, J6, v9, rfl, R10, f11, f12⟩ := b2
  have I7 := I0.call J6 (tm_sub (by decide)) (Or.inl rfl)
  have t13 := J6.up h_o0
  have := f11.2.1
  have f14 := Im.i f11.w.2
  have f15 := Im.i f11.w2
  have z16 := (ra_call I0 J6 (I0.up h_o0) (k := 5) rfl rfl rfl 44)
  have z17 := (ra_call I0 J6 (I0.up h_o0) (k := 6) rfl rfl rfl 44)
  have E18 : rE M0 M3 o0 0 1 := yE0.trans f11 (by decide) (yR.2 5 _ _ rfl 44).1 (by decide) (by decide)
  have K19 : rK1 8 M0 M3 o0 x1.toNatClampNeg := K1.same (((sA_c I0 J6 (I0.up h_o0) (by decide)) : sA [8] _ _ _) 8 rfl)
  have := mz_shl9 (v := v9) (by have := R10.1 15 _ _ rfl; have := R10.1 16 _ _ rfl; have := R10.1 19 _ _ rfl; omega) (by have := R10.1 15 _ _ rfl; have := R10.1 16 _ _ rfl; have := R10.1 19 _ _ rfl; omega)
  refine mv_ishl d_TrustDeskModel_readMarks_8 ?_
  refine mv_istore_n (lv' := [(2, .int (1 <<< (v9 &&& 31))), (0, .ref o0), (1, .int x1)]) d_TrustDeskModel_readMarks_9 rfl (by decide) rfl ?_
  have L10_20 : ∀ (k : Nat) (i2_20 : Int32) (T_20 : tm_H) (M_20 : mj_M) (n_20 : Nat), tm_I tm_FT (tm_in w_TrustDeskModel_readMarks_x) x9 T0 M0 n0 T_20 M_20 n_20 → T_20 o0 = some (0, 13, 0) → 0 ≤ i2_20.toInt → i2_20.toInt ≤ 255 → (rI M_20 o0) → (rE M0 M_20 o0 0 0) → (rK1 8 M0 M_20 o0 x1.toNatClampNeg) → 5 * (401 - rv M_20 o0 16) - rv M_20 o0 19 < (k : Int) → mj_V g l kY_TrustDeskModel_readMarks (d + 3) 10 [(2, .int i2_20), (0, .ref o0), (1, .int x1)] [] M_20 n_20 0 0 (tm_Q tm_FT (tm_in w_TrustDeskModel_readMarks_x) x9 T0 M0 n0 (fun r _ M => r = none ∧ rI M o0 ∧ (rE M0 M o0 0 0) ∧ (rK1 8 M0 M o0 x1.toNatClampNeg) ∧ (0 ≤ ra M o0 8 x1.toNatClampNeg))) := by
    intro k20
    induction k20 with
    | zero =>
      intro i2_20 T_20 M_20 n_20 I_20 h_q0_20 iv0_20 iv1_20 kKR_20 kKE_20 kKH_20 hk20
      have := kKR_20.1 15 _ _ rfl
      have := kKR_20.1 16 _ _ rfl
      have := kKR_20.1 19 _ _ rfl
      exfalso; omega
    | succ k20 ih20 =>
      intro i2_20 T_20 M_20 n_20 I_20 h_q0_20 iv0_20 iv1_20 kKR_20 kKE_20 kKH_20 hk20
      have := kKE_20.f yS
      refine mv_aload_n d_TrustDeskModel_readMarks_10 rfl rfl ?_
      obtain ⟨_, b21, -⟩ := I_20.1 _ _ h_q0_20
      refine mv_callV (kc1 := 0) (ks1 := 0) (kc' := 0) (ks' := 0) (As := []) (st9 := [.ref o0]) d_TrustDeskModel_readMarks_11 lV_TrustDeskModel_230 b21 rfl (mj_enter (by decide) (Nat.le_of_ble_eq_true rfl) ?_) rfl (Nat.le_of_ble_eq_true rfl) (Nat.le_of_ble_eq_true rfl) (Nat.le_of_ble_eq_true rfl) (hst := rfl) (fun _ _ _ h => h)
      refine mv_aload_n d_TrustDeskModel_isWell_0 rfl rfl ?_
      obtain ⟨v23, q22⟩ := tm_atI I_20 h_q0_20 (k := 19) rfl
      refine tr_getK q22 d_TrustDeskModel_isWell_1 f_TrustDeskModel_224_13 ?_
      have := kKR_20.f (k := 19) q22 rfl
      have := tm_rv q22
      have := mz_hi v23
      refine mv_if_neZ (tgt := 11) (a := v23.toInt) d_TrustDeskModel_isWell_4 (by decide) rfl (fun b24 => ?_) (fun b24 => ?_)
      · refine mv_iconst (v := 0) d_TrustDeskModel_isWell_11 (by decide) ?_
        refine mv_iret d_TrustDeskModel_isWell_12 rfl (by decide) ?_
        refine mv_if_eq_t (tgt := 40) d_TrustDeskModel_readMarks_14 (by decide) (by decide) ?_
        refine mv_aload_n d_TrustDeskModel_readMarks_40 rfl rfl ?_
        obtain ⟨a26, q25, t_a26⟩ := tm_atR I_20 h_q0_20 (k := 8) rfl
        refine tr_getK q25 d_TrustDeskModel_readMarks_41 f_TrustDeskModel_29_13 ?_
        refine mv_iload_n d_TrustDeskModel_readMarks_44 rfl rfl ?_
        refine mv_iload_n d_TrustDeskModel_readMarks_45 rfl rfl ?_
        refine tr_iastR (k := 8) I_20 kKR_20 (I_20.up h_o0) q25 t_a26 (by decide) (by decide) (fun lo hi h => by cases h; have := kKR_20.1 15 _ _ rfl; have := kKR_20.1 16 _ _ rfl; have := kKR_20.1 19 _ _ rfl; exact ⟨by show ((-1) : Int) ≤ i2_20.toInt; omega, by show i2_20.toInt ≤ (720 : Int); omega⟩) (Or.inl (by decide)) d_TrustDeskModel_readMarks_46 (vp_in_iff.mpr (by have := kKR_20.1 15 _ _ rfl; have := kKR_20.1 16 _ _ rfl; have := kKR_20.1 19 _ _ rfl; omega)) (fun M27 I28 K29 R30 E31 A32 V33 => ?_)
        have z34 := (V33 16)
        have z35 := (V33 17)
        have z36 := (V33 19)
        have z37 := (A32 5 (by decide) rfl 44)
        have z38 := (A32 6 (by decide) rfl 44)
        have E39 : rE M0 M27 o0 0 0 := kKE_20.same (fun k _ _ => V33 k) (fun k h1 h2 => A32 k (by omega) (by rcases (show k = 4 ∨ k = 5 by omega) with rfl | rfl <;> rfl))
        have h40 : x1.toNatClampNeg = x1.toNatClampNeg := by have := mz_nat9 (i := x1) (by have := kKR_20.1 15 _ _ rfl; have := kKR_20.1 16 _ _ rfl; have := kKR_20.1 19 _ _ rfl; omega); have := kKR_20.1 15 _ _ rfl; have := kKR_20.1 16 _ _ rfl; have := kKR_20.1 19 _ _ rfl; omega
        have z41 : ra M27 o0 8 x1.toNatClampNeg = i2_20.toInt := (E31 _).trans (if_pos h40)
        have K42 : rK1 8 M0 M27 o0 x1.toNatClampNeg := kKH_20.st E31 rfl
        exact mv_vret d_TrustDeskModel_readMarks_47 rfl ⟨_, I28, rfl, R30, E39, K42, (by have := R30.1 15 _ _ rfl; have := R30.1 16 _ _ rfl; have := R30.1 19 _ _ rfl; omega)⟩
      · refine mv_iconst (v := 1) d_TrustDeskModel_isWell_7 (by decide) ?_
        refine mv_goto (tgt := 12) d_TrustDeskModel_isWell_8 (by decide) ?_
        refine mv_iret d_TrustDeskModel_isWell_12 rfl (by decide) ?_
        refine mv_if_eq_f (tgt := 40) d_TrustDeskModel_readMarks_14 (by decide) (by decide) ?_
        refine mv_aload_n d_TrustDeskModel_readMarks_17 rfl rfl ?_
        obtain ⟨v44, q43⟩ := tm_atI I_20 h_q0_20 (k := 17) rfl
        refine tr_getK q43 d_TrustDeskModel_readMarks_18 f_TrustDeskModel_198_13 ?_
        have := tm_rv q43
        refine mv_iconst (v := 2) d_TrustDeskModel_readMarks_21 (by decide) ?_
        have := mz_hi v44
        refine mv_icmp_neZ (tgt := 40) (a := v44.toInt) (b := 2) d_TrustDeskModel_readMarks_22 (by decide) rfl (by decide) (fun b45 => ?_) (fun b45 => ?_)
        · refine mv_aload_n d_TrustDeskModel_readMarks_40 rfl rfl ?_
          obtain ⟨a47, q46, t_a47⟩ := tm_atR I_20 h_q0_20 (k := 8) rfl
          refine tr_getK q46 d_TrustDeskModel_readMarks_41 f_TrustDeskModel_29_13 ?_
          refine mv_iload_n d_TrustDeskModel_readMarks_44 rfl rfl ?_
          refine mv_iload_n d_TrustDeskModel_readMarks_45 rfl rfl ?_
          refine tr_iastR (k := 8) I_20 kKR_20 (I_20.up h_o0) q46 t_a47 (by decide) (by decide) (fun lo hi h => by cases h; have := kKR_20.1 15 _ _ rfl; have := kKR_20.1 16 _ _ rfl; have := kKR_20.1 19 _ _ rfl; exact ⟨by show ((-1) : Int) ≤ i2_20.toInt; omega, by show i2_20.toInt ≤ (720 : Int); omega⟩) (Or.inl (by decide)) d_TrustDeskModel_readMarks_46 (vp_in_iff.mpr (by have := kKR_20.1 15 _ _ rfl; have := kKR_20.1 16 _ _ rfl; have := kKR_20.1 19 _ _ rfl; omega)) (fun M48 I49 K50 R51 E52 A53 V54 => ?_)
          have z55 := (V54 16)
          have z56 := (V54 17)
          have z57 := (V54 19)
          have z58 := (A53 5 (by decide) rfl 44)
          have z59 := (A53 6 (by decide) rfl 44)
          have E60 : rE M0 M48 o0 0 0 := kKE_20.same (fun k _ _ => V54 k) (fun k h1 h2 => A53 k (by omega) (by rcases (show k = 4 ∨ k = 5 by omega) with rfl | rfl <;> rfl))
          have h61 : x1.toNatClampNeg = x1.toNatClampNeg := by have := mz_nat9 (i := x1) (by have := kKR_20.1 15 _ _ rfl; have := kKR_20.1 16 _ _ rfl; have := kKR_20.1 19 _ _ rfl; omega); have := kKR_20.1 15 _ _ rfl; have := kKR_20.1 16 _ _ rfl; have := kKR_20.1 19 _ _ rfl; omega
          have z62 : ra M48 o0 8 x1.toNatClampNeg = i2_20.toInt := (E52 _).trans (if_pos h61)
          have K63 : rK1 8 M0 M48 o0 x1.toNatClampNeg := kKH_20.st E52 rfl
          exact mv_vret d_TrustDeskModel_readMarks_47 rfl ⟨_, I49, rfl, R51, E60, K63, (by have := R51.1 15 _ _ rfl; have := R51.1 16 _ _ rfl; have := R51.1 19 _ _ rfl; omega)⟩
        · refine mv_iload_n d_TrustDeskModel_readMarks_25 rfl rfl ?_
          refine mv_iconst (v := 1) d_TrustDeskModel_readMarks_26 (by decide) ?_
          refine mv_aload_n d_TrustDeskModel_readMarks_27 rfl rfl ?_
          refine mv_iconst (v := 0) d_TrustDeskModel_readMarks_28 (by decide) ?_
          refine mv_bipush (v := 7) d_TrustDeskModel_readMarks_29 (by decide) ?_
          obtain ⟨_, b70, -⟩ := I_20.1 _ _ h_q0_20
          have : (0 : Int32).toInt = 0 := by decide
          have : (7 : Int32).toInt = 7 := by decide
          refine mv_callV (kc' := 0) (ks' := 0) (As := [.int 0, .int 7]) (st9 := [.int 7, .int 0, .ref o0, .int 1, .int i2_20]) d_TrustDeskModel_readMarks_31 lV_TrustDeskModel_317 b70 rfl (tc_TrustDeskModel_number_x (d := d) (x9 := x9) (o0 := o0) (x1 := 0) (x2 := 7) h_q0_20 kKR_20 kKE_20.1 (kKE_20.s yS (by decide)) I_20.start) rfl (Nat.le_of_ble_eq_true rfl) (Nat.le_of_ble_eq_true rfl) (Nat.le_of_ble_eq_true rfl) (hst := rfl) (fun b64r M65 n66 b64 => ?_)
          obtain ⟨T67, J68, v71, rfl, R72, f73, f74⟩ := b64
          have I69 := I_20.call J68 (tm_sub (by decide)) (Or.inl rfl)
          have t75 := J68.up h_q0_20
          have := f73.2.1
          have f76 := Im.i f73.w.2
          have f77 := Im.i f73.w2
          have z78 := (ra_call I_20 J68 (I_20.up h_o0) (k := 5) rfl rfl rfl 44)
          have z79 := (ra_call I_20 J68 (I_20.up h_o0) (k := 6) rfl rfl rfl 44)
          have E80 : rE M0 M65 o0 0 1 := kKE_20.trans f73 (by decide) (yR.2 5 _ _ rfl 44).1 (by decide) (by decide)
          have K81 : rK1 8 M0 M65 o0 x1.toNatClampNeg := kKH_20.same (((sA_c I_20 J68 (I_20.up h_o0) (by decide)) : sA [8] _ _ _) 8 rfl)
          have := mz_shl9 (v := v71) (by have := R72.1 15 _ _ rfl; have := R72.1 16 _ _ rfl; have := R72.1 19 _ _ rfl; omega) (by have := R72.1 15 _ _ rfl; have := R72.1 16 _ _ rfl; have := R72.1 19 _ _ rfl; omega)
          refine mv_ishl d_TrustDeskModel_readMarks_34 ?_
          have := mz_or9 (a := i2_20) (b := (1 <<< (v71 &&& 31))) (by have := R72.1 15 _ _ rfl; have := R72.1 16 _ _ rfl; have := R72.1 19 _ _ rfl; omega) (by have := R72.1 15 _ _ rfl; have := R72.1 16 _ _ rfl; have := R72.1 19 _ _ rfl; omega) (by have := R72.1 15 _ _ rfl; have := R72.1 16 _ _ rfl; have := R72.1 19 _ _ rfl; omega) (by have := R72.1 15 _ _ rfl; have := R72.1 16 _ _ rfl; have := R72.1 19 _ _ rfl; omega)
          refine mv_ior d_TrustDeskModel_readMarks_35 ?_
          refine mv_istore_n (lv' := [(2, .int (i2_20 ||| (1 <<< (v71 &&& 31)))), (0, .ref o0), (1, .int x1)]) d_TrustDeskModel_readMarks_36 rfl (by decide) rfl ?_
          refine mv_goto (tgt := 10) d_TrustDeskModel_readMarks_37 (by decide) ?_
          have E82 : rE M0 M65 o0 0 0 := E80.less (by decide)
          exact (ih20 (i2_20 ||| (1 <<< (v71 &&& 31))) T67 M65 n66 I69 t75 (by have := R72.1 15 _ _ rfl; have := R72.1 16 _ _ rfl; have := R72.1 19 _ _ rfl; first | omega | decide | exact fun h9 => absurd (by decide) h9) (by have := R72.1 15 _ _ rfl; have := R72.1 16 _ _ rfl; have := R72.1 19 _ _ rfl; first | omega | decide | exact fun h9 => absurd (by decide) h9) R72 E82 K81 (by have := R72.1 15 _ _ rfl; have := R72.1 16 _ _ rfl; have := R72.1 19 _ _ rfl; exact Classical.byCases (fun w9 : rv M65 o0 19 = 0 => by have u91 : rv M65 o0 19 = 0 := (by omega); have := f76.o u91; have := f77.o u91; omega) (fun w9 : ¬ rv M65 o0 19 = 0 => by omega)))
  have E83 : rE M0 M3 o0 0 0 := E18.less (by decide)
  exact mv_less (Nat.zero_le _) (Nat.zero_le _) (L10_20 4294967296 (1 <<< (v9 &&& 31)) T5 M3 n4 I7 t13 (by have := R10.1 15 _ _ rfl; have := R10.1 16 _ _ rfl; have := R10.1 19 _ _ rfl; first | omega | decide | exact fun h9 => absurd (by decide) h9) (by have := R10.1 15 _ _ rfl; have := R10.1 16 _ _ rfl; have := R10.1 19 _ _ rfl; first | omega | decide | exact fun h9 => absurd (by decide) h9) R10 E83 K19 (by have := R10.1 15 _ _ rfl; have := R10.1 16 _ _ rfl; have := R10.1 19 _ _ rfl; exact Classical.byCases (fun w9 : rv M3 o0 19 = 0 => by have u91 : rv M3 o0 19 = 0 := (by omega); have := f14.o u91; have := f15.o u91; omega) (fun w9 : ¬ rv M3 o0 19 = 0 => by omega)))
abbrev kY_TrustDeskModel_isThere : mj_Y := (⟨"TrustDeskModel", "isThere", "()Z"⟩, prog_14_method_36_code, 5, (Option.some Jvm.ClassFile.FieldType.boolean))
theorem d_TrustDeskModel_isThere_0 : decode kY_TrustDeskModel_isThere.2.1 0 = .ok (.iconst 0, 1) := by decide +kernel
theorem d_TrustDeskModel_isThere_1 : decode kY_TrustDeskModel_isThere.2.1 1 = .ok (.istore_n 1, 1) := by decide +kernel
theorem d_TrustDeskModel_isThere_2 : decode kY_TrustDeskModel_isThere.2.1 2 = .ok (.iconst 0, 1) := by decide +kernel
theorem d_TrustDeskModel_isThere_3 : decode kY_TrustDeskModel_isThere.2.1 3 = .ok (.istore_n 2, 1) := by decide +kernel
theorem d_TrustDeskModel_isThere_4 : decode kY_TrustDeskModel_isThere.2.1 4 = .ok (.iload_n 2, 1) := by decide +kernel
theorem d_TrustDeskModel_isThere_5 : decode kY_TrustDeskModel_isThere.2.1 5 = .ok (.aload_n 0, 1) := by decide +kernel
theorem d_TrustDeskModel_isThere_6 : decode kY_TrustDeskModel_isThere.2.1 6 = .ok (.getfield 321, 3) := by decide +kernel
theorem f_TrustDeskModel_321_13 : mj_fl "TrustDeskModel" 321 13 24 := ⟨kR_TrustDeskModel, kF_TrustDeskModel, 72, "TrustDeskModel", rfl, kg_13, by decide, (mj_in1 (List.mem_of_getElem? (i := 1410) (by decide +kernel)) rfl), Or.inl rfl⟩
theorem d_TrustDeskModel_isThere_9 : decode kY_TrustDeskModel_isThere.2.1 9 = .ok (.if_icmp .ge 106, 3) := by decide +kernel
theorem d_TrustDeskModel_isThere_115 : decode kY_TrustDeskModel_isThere.2.1 115 = .ok (.iload_n 1, 1) := by decide +kernel
theorem d_TrustDeskModel_isThere_116 : decode kY_TrustDeskModel_isThere.2.1 116 = .ok (.ireturn, 1) := by decide +kernel
theorem d_TrustDeskModel_isThere_12 : decode kY_TrustDeskModel_isThere.2.1 12 = .ok (.aload_n 0, 1) := by decide +kernel
theorem d_TrustDeskModel_isThere_13 : decode kY_TrustDeskModel_isThere.2.1 13 = .ok (.getfield 54, 3) := by decide +kernel
theorem f_TrustDeskModel_54_13 : mj_fl "TrustDeskModel" 54 13 26 := ⟨kR_TrustDeskModel, kF_TrustDeskModel, 72, "TrustDeskModel", rfl, kg_13, by decide, (mj_in1 (List.mem_of_getElem? (i := 1412) (by decide +kernel)) rfl), Or.inl rfl⟩
theorem d_TrustDeskModel_isThere_16 : decode kY_TrustDeskModel_isThere.2.1 16 = .ok (.iload_n 2, 1) := by decide +kernel
theorem d_TrustDeskModel_isThere_17 : decode kY_TrustDeskModel_isThere.2.1 17 = .ok (.iaload, 1) := by decide +kernel
theorem d_TrustDeskModel_isThere_18 : decode kY_TrustDeskModel_isThere.2.1 18 = .ok (.aload_n 0, 1) := by decide +kernel
theorem d_TrustDeskModel_isThere_19 : decode kY_TrustDeskModel_isThere.2.1 19 = .ok (.getfield 192, 3) := by decide +kernel
theorem d_TrustDeskModel_isThere_22 : decode kY_TrustDeskModel_isThere.2.1 22 = .ok (.aload_n 0, 1) := by decide +kernel
theorem d_TrustDeskModel_isThere_23 : decode kY_TrustDeskModel_isThere.2.1 23 = .ok (.getfield 195, 3) := by decide +kernel
theorem d_TrustDeskModel_isThere_26 : decode kY_TrustDeskModel_isThere.2.1 26 = .ok (.isub, 1) := by decide +kernel
theorem d_TrustDeskModel_isThere_27 : decode kY_TrustDeskModel_isThere.2.1 27 = .ok (.if_icmp .ne 7, 3) := by decide +kernel
theorem d_TrustDeskModel_isThere_34 : decode kY_TrustDeskModel_isThere.2.1 34 = .ok (.iconst 0, 1) := by decide +kernel
theorem d_TrustDeskModel_isThere_35 : decode kY_TrustDeskModel_isThere.2.1 35 = .ok (.istore_n 3, 1) := by decide +kernel
theorem d_TrustDeskModel_isThere_36 : decode kY_TrustDeskModel_isThere.2.1 36 = .ok (.iconst 0, 1) := by decide +kernel
theorem d_TrustDeskModel_isThere_37 : decode kY_TrustDeskModel_isThere.2.1 37 = .ok (.istore 4, 2) := by decide +kernel
theorem d_TrustDeskModel_isThere_39 : decode kY_TrustDeskModel_isThere.2.1 39 = .ok (.iload 4, 2) := by decide +kernel
theorem d_TrustDeskModel_isThere_41 : decode kY_TrustDeskModel_isThere.2.1 41 = .ok (.aload_n 0, 1) := by decide +kernel
theorem d_TrustDeskModel_isThere_42 : decode kY_TrustDeskModel_isThere.2.1 42 = .ok (.getfield 54, 3) := by decide +kernel
theorem d_TrustDeskModel_isThere_45 : decode kY_TrustDeskModel_isThere.2.1 45 = .ok (.iload_n 2, 1) := by decide +kernel
theorem d_TrustDeskModel_isThere_46 : decode kY_TrustDeskModel_isThere.2.1 46 = .ok (.iaload, 1) := by decide +kernel
theorem d_TrustDeskModel_isThere_47 : decode kY_TrustDeskModel_isThere.2.1 47 = .ok (.if_icmp .ge 48, 3) := by decide +kernel
theorem d_TrustDeskModel_isThere_95 : decode kY_TrustDeskModel_isThere.2.1 95 = .ok (.iload_n 1, 1) := by decide +kernel
theorem d_TrustDeskModel_isThere_96 : decode kY_TrustDeskModel_isThere.2.1 96 = .ok (.ifCond .ne 7, 3) := by decide +kernel
theorem d_TrustDeskModel_isThere_103 : decode kY_TrustDeskModel_isThere.2.1 103 = .ok (.iconst 1, 1) := by decide +kernel
theorem d_TrustDeskModel_isThere_104 : decode kY_TrustDeskModel_isThere.2.1 104 = .ok (.goto 4, 3) := by decide +kernel
theorem d_TrustDeskModel_isThere_108 : decode kY_TrustDeskModel_isThere.2.1 108 = .ok (.istore_n 1, 1) := by decide +kernel
theorem d_TrustDeskModel_isThere_109 : decode kY_TrustDeskModel_isThere.2.1 109 = .ok (.iinc 2 1, 3) := by decide +kernel
theorem d_TrustDeskModel_isThere_112 : decode kY_TrustDeskModel_isThere.2.1 112 = .ok (.goto (-108), 3) := by decide +kernel
theorem d_TrustDeskModel_isThere_99 : decode kY_TrustDeskModel_isThere.2.1 99 = .ok (.iload_n 3, 1) := by decide +kernel
theorem d_TrustDeskModel_isThere_100 : decode kY_TrustDeskModel_isThere.2.1 100 = .ok (.ifCond .eq 7, 3) := by decide +kernel
theorem d_TrustDeskModel_isThere_107 : decode kY_TrustDeskModel_isThere.2.1 107 = .ok (.iconst 0, 1) := by decide +kernel
theorem d_TrustDeskModel_isThere_50 : decode kY_TrustDeskModel_isThere.2.1 50 = .ok (.iload_n 3, 1) := by decide +kernel
theorem d_TrustDeskModel_isThere_51 : decode kY_TrustDeskModel_isThere.2.1 51 = .ok (.ifCond .eq 44, 3) := by decide +kernel
theorem d_TrustDeskModel_isThere_54 : decode kY_TrustDeskModel_isThere.2.1 54 = .ok (.aload_n 0, 1) := by decide +kernel
theorem d_TrustDeskModel_isThere_55 : decode kY_TrustDeskModel_isThere.2.1 55 = .ok (.getfield 44, 3) := by decide +kernel
theorem d_TrustDeskModel_isThere_58 : decode kY_TrustDeskModel_isThere.2.1 58 = .ok (.aload_n 0, 1) := by decide +kernel
theorem d_TrustDeskModel_isThere_59 : decode kY_TrustDeskModel_isThere.2.1 59 = .ok (.getfield 195, 3) := by decide +kernel
theorem d_TrustDeskModel_isThere_62 : decode kY_TrustDeskModel_isThere.2.1 62 = .ok (.iload 4, 2) := by decide +kernel
theorem d_TrustDeskModel_isThere_64 : decode kY_TrustDeskModel_isThere.2.1 64 = .ok (.iadd, 1) := by decide +kernel
theorem d_TrustDeskModel_isThere_65 : decode kY_TrustDeskModel_isThere.2.1 65 = .ok (.baload, 1) := by decide +kernel
theorem d_TrustDeskModel_isThere_66 : decode kY_TrustDeskModel_isThere.2.1 66 = .ok (.aload_n 0, 1) := by decide +kernel
theorem d_TrustDeskModel_isThere_67 : decode kY_TrustDeskModel_isThere.2.1 67 = .ok (.getfield 44, 3) := by decide +kernel
theorem d_TrustDeskModel_isThere_70 : decode kY_TrustDeskModel_isThere.2.1 70 = .ok (.aload_n 0, 1) := by decide +kernel
theorem d_TrustDeskModel_isThere_71 : decode kY_TrustDeskModel_isThere.2.1 71 = .ok (.getfield 51, 3) := by decide +kernel
theorem f_TrustDeskModel_51_13 : mj_fl "TrustDeskModel" 51 13 25 := ⟨kR_TrustDeskModel, kF_TrustDeskModel, 72, "TrustDeskModel", rfl, kg_13, by decide, (mj_in1 (List.mem_of_getElem? (i := 1411) (by decide +kernel)) rfl), Or.inl rfl⟩
theorem d_TrustDeskModel_isThere_74 : decode kY_TrustDeskModel_isThere.2.1 74 = .ok (.iload_n 2, 1) := by decide +kernel
theorem d_TrustDeskModel_isThere_75 : decode kY_TrustDeskModel_isThere.2.1 75 = .ok (.iaload, 1) := by decide +kernel
theorem d_TrustDeskModel_isThere_76 : decode kY_TrustDeskModel_isThere.2.1 76 = .ok (.iload 4, 2) := by decide +kernel
theorem d_TrustDeskModel_isThere_78 : decode kY_TrustDeskModel_isThere.2.1 78 = .ok (.iadd, 1) := by decide +kernel
theorem d_TrustDeskModel_isThere_79 : decode kY_TrustDeskModel_isThere.2.1 79 = .ok (.baload, 1) := by decide +kernel
theorem d_TrustDeskModel_isThere_80 : decode kY_TrustDeskModel_isThere.2.1 80 = .ok (.if_icmp .ne 7, 3) := by decide +kernel
theorem d_TrustDeskModel_isThere_87 : decode kY_TrustDeskModel_isThere.2.1 87 = .ok (.iconst 0, 1) := by decide +kernel
theorem d_TrustDeskModel_isThere_88 : decode kY_TrustDeskModel_isThere.2.1 88 = .ok (.istore_n 3, 1) := by decide +kernel
theorem d_TrustDeskModel_isThere_89 : decode kY_TrustDeskModel_isThere.2.1 89 = .ok (.iinc 4 1, 3) := by decide +kernel
theorem d_TrustDeskModel_isThere_92 : decode kY_TrustDeskModel_isThere.2.1 92 = .ok (.goto (-53), 3) := by decide +kernel
theorem d_TrustDeskModel_isThere_83 : decode kY_TrustDeskModel_isThere.2.1 83 = .ok (.iconst 1, 1) := by decide +kernel
theorem d_TrustDeskModel_isThere_84 : decode kY_TrustDeskModel_isThere.2.1 84 = .ok (.goto 4, 3) := by decide +kernel
theorem d_TrustDeskModel_isThere_30 : decode kY_TrustDeskModel_isThere.2.1 30 = .ok (.iconst 1, 1) := by decide +kernel
theorem d_TrustDeskModel_isThere_31 : decode kY_TrustDeskModel_isThere.2.1 31 = .ok (.goto 4, 3) := by decide +kernel
def w_TrustDeskModel_isThere_x : List Nat := []
set_option maxHeartbeats 100000000 in theorem tc_TrustDeskModel_isThere_x {g : mj_G} {l : Launch} {d : Nat} {T0 : tm_H} {M0 : mj_M} {n0 x9 : Nat} {o0 : Nat} (h_o0 : T0 o0 = some (0, 13, 0)) (yR : rI M0 o0) (yT : rT M0 o0) (yn : nN M0 o0) (I0 : tm_I tm_FT (tm_in w_TrustDeskModel_isThere_x) x9 T0 M0 n0 T0 M0 n0) : mj_Met g l kY_TrustDeskModel_isThere d [.ref o0] M0 n0 0 0 (tm_Q tm_FT (tm_in w_TrustDeskModel_isThere_x) x9 T0 M0 n0 (fun r _ M => ∃ v : Int32, r = some (.int v) ∧ 0 ≤ v.toInt ∧ v.toInt ≤ 1 ∧ rI M o0)) := by
  refine mj_enter (by decide) (Nat.le_of_ble_eq_true rfl) ?_
  have K1 : nN M0 o0 := yn
  refine mv_iconst (v := 0) d_TrustDeskModel_isThere_0 (by decide) ?_
  refine mv_istore_n (lv' := [(1, .int 0), (0, .ref o0)]) d_TrustDeskModel_isThere_1 rfl (by decide) rfl ?_
  refine mv_iconst (v := 0) d_TrustDeskModel_isThere_2 (by decide) ?_
  refine mv_istore_n (lv' := [(2, .int 0), (1, .int 0), (0, .ref o0)]) d_TrustDeskModel_isThere_3 rfl (by decide) rfl ?_
  have L4_2 : ∀ (k : Nat) (i2_2 : Int32) (i1_2 : Int32) (T_2 : tm_H) (M_2 : mj_M) (n_2 : Nat), tm_I tm_FT (tm_in w_TrustDeskModel_isThere_x) x9 T0 M0 n0 T_2 M_2 n_2 → T_2 o0 = some (0, 13, 0) → 0 ≤ i2_2.toInt → rv M_2 o0 15 = rv M0 o0 15 → rv M_2 o0 16 = rv M0 o0 16 → rv M_2 o0 24 = rv M0 o0 24 → 0 ≤ i1_2.toInt → i1_2.toInt ≤ 1 → (rI M_2 o0) → (nN M_2 o0) → 2147483647 - i2_2.toInt < (k : Int) → mj_V g l kY_TrustDeskModel_isThere d 4 [(2, .int i2_2), (1, .int i1_2), (0, .ref o0)] [] M_2 n_2 0 0 (tm_Q tm_FT (tm_in w_TrustDeskModel_isThere_x) x9 T0 M0 n0 (fun r _ M => ∃ v : Int32, r = some (.int v) ∧ 0 ≤ v.toInt ∧ v.toInt ≤ 1 ∧ rI M o0)) := by
    intro k2
    induction k2 with
    | zero =>
      intro i2_2 i1_2 T_2 M_2 n_2 I_2 h_q0_2 iv0_2 iv1_2 iv2_2 iv3_2 iv4_2 iv5_2 kKR_2 kKN_2 hk2
      have := mz_hi i2_2
      have := kKR_2.1 15 _ _ rfl
      have := kKR_2.1 16 _ _ rfl
      have := kKR_2.1 19 _ _ rfl
      omega
    | succ k2 ih2 =>
      intro i2_2 i1_2 T_2 M_2 n_2 I_2 h_q0_2 iv0_2 iv1_2 iv2_2 iv3_2 iv4_2 iv5_2 kKR_2 kKN_2 hk2
      refine mv_iload_n d_TrustDeskModel_isThere_4 rfl rfl ?_
      refine mv_aload_n d_TrustDeskModel_isThere_5 rfl rfl ?_
      obtain ⟨v4, q3⟩ := tm_atI I_2 h_q0_2 (k := 24) rfl
      refine tr_getK q3 d_TrustDeskModel_isThere_6 f_TrustDeskModel_321_13 ?_
      have := kKR_2.f (k := 24) q3 rfl
      have := tm_rv q3
      have := mz_hi i2_2
      have := mz_hi v4
      refine mv_icmp_geZ (tgt := 115) (a := i2_2.toInt) (b := v4.toInt) d_TrustDeskModel_isThere_9 (by decide) rfl rfl (fun b5 => ?_) (fun b5 => ?_)
      · refine mv_iload_n d_TrustDeskModel_isThere_115 rfl rfl ?_
        exact mv_iret d_TrustDeskModel_isThere_116 rfl (mz_nb (by omega) (by omega)) ⟨_, I_2, _, rfl, by omega, by omega, kKR_2⟩
      · refine mv_aload_n d_TrustDeskModel_isThere_12 rfl rfl ?_
        obtain ⟨a7, q6, t_a7⟩ := tm_atR I_2 h_q0_2 (k := 26) rfl
        refine tr_getK q6 d_TrustDeskModel_isThere_13 f_TrustDeskModel_54_13 ?_
        refine mv_iload_n d_TrustDeskModel_isThere_16 rfl rfl ?_
        refine tr_ialdR (o := o0) (k := 26) I_2 q6 t_a7 (by decide) d_TrustDeskModel_isThere_17 (vp_in_iff.mpr (by have := kKR_2.1 15 _ _ rfl; have := kKR_2.1 16 _ _ rfl; have := kKR_2.1 19 _ _ rfl; omega)) (fun v8 e9 => ?_)
        have := kKR_2.a (k := 26) rfl (i2_2 : Int32).toNatClampNeg
        have := kKN_2 i2_2.toNatClampNeg (by rw [mz_nat9 (by have := kKR_2.1 15 _ _ rfl; have := kKR_2.1 16 _ _ rfl; have := kKR_2.1 19 _ _ rfl; omega)]; have := kKR_2.1 15 _ _ rfl; have := kKR_2.1 16 _ _ rfl; have := kKR_2.1 19 _ _ rfl; omega)
        refine mv_aload_n d_TrustDeskModel_isThere_18 rfl rfl ?_
        obtain ⟨v11, q10⟩ := tm_atI I_2 h_q0_2 (k := 15) rfl
        refine tr_getK q10 d_TrustDeskModel_isThere_19 f_TrustDeskModel_192_13 ?_
        have := kKR_2.f (k := 15) q10 rfl
        have := tm_rv q10
        refine mv_aload_n d_TrustDeskModel_isThere_22 rfl rfl ?_
        obtain ⟨v13, q12⟩ := tm_atI I_2 h_q0_2 (k := 16) rfl
        refine tr_getK q12 d_TrustDeskModel_isThere_23 f_TrustDeskModel_195_13 ?_
        have := kKR_2.f (k := 16) q12 rfl
        have := tm_rv q12
        refine mv_isub d_TrustDeskModel_isThere_26 ?_
        have b14 : (v11 - v13 : Int32).toInt = (v11.toInt - v13.toInt) := mz_sub2 rfl rfl (by have := kKR_2.1 15 _ _ rfl; have := kKR_2.1 16 _ _ rfl; have := kKR_2.1 19 _ _ rfl; omega) (by have := kKR_2.1 15 _ _ rfl; have := kKR_2.1 16 _ _ rfl; have := kKR_2.1 19 _ _ rfl; omega)
        have := mz_hi v8
        have := mz_hi (v11 - v13)
        refine mv_icmp_neZ (tgt := 34) (a := v8.toInt) (b := (v11 - v13).toInt) d_TrustDeskModel_isThere_27 (by decide) rfl rfl (fun b15 => ?_) (fun b15 => ?_)
        · refine mv_iconst (v := 0) d_TrustDeskModel_isThere_34 (by decide) ?_
          refine mv_istore_n (lv' := [(3, .int 0), (2, .int i2_2), (1, .int i1_2), (0, .ref o0)]) d_TrustDeskModel_isThere_35 rfl (by decide) rfl ?_
          refine mv_iconst (v := 0) d_TrustDeskModel_isThere_36 (by decide) ?_
          refine mv_istore (lv' := [(4, .int 0), (3, .int 0), (2, .int i2_2), (1, .int i1_2), (0, .ref o0)]) d_TrustDeskModel_isThere_37 (by decide) rfl ?_
          have L39_16 : ∀ (k : Nat) (i4_16 : Int32) (i3_16 : Int32) (T_16 : tm_H) (M_16 : mj_M) (n_16 : Nat), tm_I tm_FT (tm_in w_TrustDeskModel_isThere_x) x9 T0 M0 n0 T_16 M_16 n_16 → T_16 o0 = some (0, 13, 0) → 0 ≤ i4_16.toInt → rv M_16 o0 15 = rv M0 o0 15 → rv M_16 o0 16 = rv M0 o0 16 → rv M_16 o0 24 = rv M0 o0 24 → 0 ≤ i2_2.toInt → i2_2.toInt < rv M_16 o0 24 → 0 ≤ i3_16.toInt → i3_16.toInt ≤ 1 → (i3_16.toInt ≠ 0 → ra M_16 o0 26 (i2_2).toNatClampNeg = rv M0 o0 15 - rv M0 o0 16) → (rI M_16 o0) → (nN M_16 o0) → 2147483647 - i4_16.toInt < (k : Int) → mj_V g l kY_TrustDeskModel_isThere d 39 [(4, .int i4_16), (3, .int i3_16), (2, .int i2_2), (1, .int i1_2), (0, .ref o0)] [] M_16 n_16 0 0 (tm_Q tm_FT (tm_in w_TrustDeskModel_isThere_x) x9 T0 M0 n0 (fun r _ M => ∃ v : Int32, r = some (.int v) ∧ 0 ≤ v.toInt ∧ v.toInt ≤ 1 ∧ rI M o0)) := by
            intro k16
            induction k16 with
            | zero =>
              intro i4_16 i3_16 T_16 M_16 n_16 I_16 h_q0_16 iv0_16 iv1_16 iv2_16 iv3_16 iv4_16 iv5_16 iv6_16 iv7_16 iv8_16 kKR_16 kKN_16 hk16
              have := mz_hi i4_16
              have := kKR_16.1 15 _ _ rfl
              have := kKR_16.1 16 _ _ rfl
              have := kKR_16.1 19 _ _ rfl
              omega
            | succ k16 ih16 =>
              intro i4_16 i3_16 T_16 M_16 n_16 I_16 h_q0_16 iv0_16 iv1_16 iv2_16 iv3_16 iv4_16 iv5_16 iv6_16 iv7_16 iv8_16 kKR_16 kKN_16 hk16
              refine mv_iload d_TrustDeskModel_isThere_39 rfl ?_
              refine mv_aload_n d_TrustDeskModel_isThere_41 rfl rfl ?_
              obtain ⟨a18, q17, t_a18⟩ := tm_atR I_16 h_q0_16 (k := 26) rfl
              refine tr_getK q17 d_TrustDeskModel_isThere_42 f_TrustDeskModel_54_13 ?_
              refine mv_iload_n d_TrustDeskModel_isThere_45 rfl rfl ?_
              refine tr_ialdR (o := o0) (k := 26) I_16 q17 t_a18 (by decide) d_TrustDeskModel_isThere_46 (vp_in_iff.mpr (by have := kKR_16.1 15 _ _ rfl; have := kKR_16.1 16 _ _ rfl; have := kKR_16.1 19 _ _ rfl; omega)) (fun v19 e20 => ?_)
              have := kKR_16.a (k := 26) rfl (i2_2 : Int32).toNatClampNeg
              have := kKN_16 i2_2.toNatClampNeg (by rw [mz_nat9 (by have := kKR_16.1 15 _ _ rfl; have := kKR_16.1 16 _ _ rfl; have := kKR_16.1 19 _ _ rfl; omega)]; have := kKR_16.1 15 _ _ rfl; have := kKR_16.1 16 _ _ rfl; have := kKR_16.1 19 _ _ rfl; omega)
              have := mz_hi i4_16
              have := mz_hi v19
              refine mv_icmp_geZ (tgt := 95) (a := i4_16.toInt) (b := v19.toInt) d_TrustDeskModel_isThere_47 (by decide) rfl rfl (fun b21 => ?_) (fun b21 => ?_)
              · refine mv_iload_n d_TrustDeskModel_isThere_95 rfl rfl ?_
                have := mz_hi i1_2
                refine mv_if_neZ (tgt := 103) (a := i1_2.toInt) d_TrustDeskModel_isThere_96 (by decide) rfl (fun b22 => ?_) (fun b22 => ?_)
                · refine mv_iconst (v := 1) d_TrustDeskModel_isThere_103 (by decide) ?_
                  refine mv_goto (tgt := 108) d_TrustDeskModel_isThere_104 (by decide) ?_
                  refine mv_istore_n (lv' := [(1, .int 1), (4, .int i4_16), (3, .int i3_16), (2, .int i2_2), (0, .ref o0)]) d_TrustDeskModel_isThere_108 rfl (by decide) rfl ?_
                  refine mv_iinc (v := (i2_2 + 1)) (lv' := [(2, .int (i2_2 + 1)), (1, .int 1), (4, .int i4_16), (3, .int i3_16), (0, .ref o0)]) d_TrustDeskModel_isThere_109 rfl rfl (by decide) rfl ?_
                  refine mv_goto (tgt := 4) d_TrustDeskModel_isThere_112 (by decide) ?_
                  refine mv_locals (lv' := [(2, .int (i2_2 + 1)), (1, .int 1), (0, .ref o0)]) (by intro q hq; simp only [List.mem_cons, List.not_mem_nil, or_false] at hq; rcases hq with rfl | rfl | rfl <;> rfl) ?_
                  have b23 : (i2_2 + 1).toInt = i2_2.toInt + 1 := mz_addn 1 1 (by decide) (by have := mz_lo i2_2; omega) (by have := mz_hi i2_2; omega)
                  exact (ih2 (i2_2 + 1) 1 T_16 M_16 n_16 I_16 h_q0_16 (by have := kKR_16.1 15 _ _ rfl; have := kKR_16.1 16 _ _ rfl; have := kKR_16.1 19 _ _ rfl; first | omega | decide | exact fun h9 => absurd (by decide) h9) (by have := kKR_16.1 15 _ _ rfl; have := kKR_16.1 16 _ _ rfl; have := kKR_16.1 19 _ _ rfl; first | omega | decide | exact fun h9 => absurd (by decide) h9) (by have := kKR_16.1 15 _ _ rfl; have := kKR_16.1 16 _ _ rfl; have := kKR_16.1 19 _ _ rfl; first | omega | decide | exact fun h9 => absurd (by decide) h9) (by have := kKR_16.1 15 _ _ rfl; have := kKR_16.1 16 _ _ rfl; have := kKR_16.1 19 _ _ rfl; first | omega | decide | exact fun h9 => absurd (by decide) h9) (by have := kKR_16.1 15 _ _ rfl; have := kKR_16.1 16 _ _ rfl; have := kKR_16.1 19 _ _ rfl; first | omega | decide | exact fun h9 => absurd (by decide) h9) (by have := kKR_16.1 15 _ _ rfl; have := kKR_16.1 16 _ _ rfl; have := kKR_16.1 19 _ _ rfl; first | omega | decide | exact fun h9 => absurd (by decide) h9) kKR_16 kKN_16 (by have := kKR_16.1 15 _ _ rfl; have := kKR_16.1 16 _ _ rfl; have := kKR_16.1 19 _ _ rfl; omega))
                · refine mv_iload_n d_TrustDeskModel_isThere_99 rfl rfl ?_
                  have := mz_hi i3_16
                  refine mv_if_eqZ (tgt := 107) (a := i3_16.toInt) d_TrustDeskModel_isThere_100 (by decide) rfl (fun b24 => ?_) (fun b24 => ?_)
                  · refine mv_iconst (v := 0) d_TrustDeskModel_isThere_107 (by decide) ?_
                    refine mv_istore_n (lv' := [(1, .int 0), (4, .int i4_16), (3, .int i3_16), (2, .int i2_2), (0, .ref o0)]) d_TrustDeskModel_isThere_108 rfl (by decide) rfl ?_
                    refine mv_iinc (v := (i2_2 + 1)) (lv' := [(2, .int (i2_2 + 1)), (1, .int 0), (4, .int i4_16), (3, .int i3_16), (0, .ref o0)]) d_TrustDeskModel_isThere_109 rfl rfl (by decide) rfl ?_
                    refine mv_goto (tgt := 4) d_TrustDeskModel_isThere_112 (by decide) ?_
                    refine mv_locals (lv' := [(2, .int (i2_2 + 1)), (1, .int 0), (0, .ref o0)]) (by intro q hq; simp only [List.mem_cons, List.not_mem_nil, or_false] at hq; rcases hq with rfl | rfl | rfl <;> rfl) ?_
                    have b25 : (i2_2 + 1).toInt = i2_2.toInt + 1 := mz_addn 1 1 (by decide) (by have := mz_lo i2_2; omega) (by have := mz_hi i2_2; omega)
                    exact (ih2 (i2_2 + 1) 0 T_16 M_16 n_16 I_16 h_q0_16 (by have := kKR_16.1 15 _ _ rfl; have := kKR_16.1 16 _ _ rfl; have := kKR_16.1 19 _ _ rfl; first | omega | decide | exact fun h9 => absurd (by decide) h9) (by have := kKR_16.1 15 _ _ rfl; have := kKR_16.1 16 _ _ rfl; have := kKR_16.1 19 _ _ rfl; first | omega | decide | exact fun h9 => absurd (by decide) h9) (by have := kKR_16.1 15 _ _ rfl; have := kKR_16.1 16 _ _ rfl; have := kKR_16.1 19 _ _ rfl; first | omega | decide | exact fun h9 => absurd (by decide) h9) (by have := kKR_16.1 15 _ _ rfl; have := kKR_16.1 16 _ _ rfl; have := kKR_16.1 19 _ _ rfl; first | omega | decide | exact fun h9 => absurd (by decide) h9) (by have := kKR_16.1 15 _ _ rfl; have := kKR_16.1 16 _ _ rfl; have := kKR_16.1 19 _ _ rfl; first | omega | decide | exact fun h9 => absurd (by decide) h9) (by have := kKR_16.1 15 _ _ rfl; have := kKR_16.1 16 _ _ rfl; have := kKR_16.1 19 _ _ rfl; first | omega | decide | exact fun h9 => absurd (by decide) h9) kKR_16 kKN_16 (by have := kKR_16.1 15 _ _ rfl; have := kKR_16.1 16 _ _ rfl; have := kKR_16.1 19 _ _ rfl; omega))
                  · refine mv_iconst (v := 1) d_TrustDeskModel_isThere_103 (by decide) ?_
                    refine mv_goto (tgt := 108) d_TrustDeskModel_isThere_104 (by decide) ?_
                    refine mv_istore_n (lv' := [(1, .int 1), (4, .int i4_16), (3, .int i3_16), (2, .int i2_2), (0, .ref o0)]) d_TrustDeskModel_isThere_108 rfl (by decide) rfl ?_
                    refine mv_iinc (v := (i2_2 + 1)) (lv' := [(2, .int (i2_2 + 1)), (1, .int 1), (4, .int i4_16), (3, .int i3_16), (0, .ref o0)]) d_TrustDeskModel_isThere_109 rfl rfl (by decide) rfl ?_
                    refine mv_goto (tgt := 4) d_TrustDeskModel_isThere_112 (by decide) ?_
                    refine mv_locals (lv' := [(2, .int (i2_2 + 1)), (1, .int 1), (0, .ref o0)]) (by intro q hq; simp only [List.mem_cons, List.not_mem_nil, or_false] at hq; rcases hq with rfl | rfl | rfl <;> rfl) ?_
                    have b26 : (i2_2 + 1).toInt = i2_2.toInt + 1 := mz_addn 1 1 (by decide) (by have := mz_lo i2_2; omega) (by have := mz_hi i2_2; omega)
                    exact (ih2 (i2_2 + 1) 1 T_16 M_16 n_16 I_16 h_q0_16 (by have := kKR_16.1 15 _ _ rfl; have := kKR_16.1 16 _ _ rfl; have := kKR_16.1 19 _ _ rfl; first | omega | decide | exact fun h9 => absurd (by decide) h9) (by have := kKR_16.1 15 _ _ rfl; have := kKR_16.1 16 _ _ rfl; have := kKR_16.1 19 _ _ rfl; first | omega | decide | exact fun h9 => absurd (by decide) h9) (by have := kKR_16.1 15 _ _ rfl; have := kKR_16.1 16 _ _ rfl; have := kKR_16.1 19 _ _ rfl; first | omega | decide | exact fun h9 => absurd (by decide) h9) (by have := kKR_16.1 15 _ _ rfl; have := kKR_16.1 16 _ _ rfl; have := kKR_16.1 19 _ _ rfl; first | omega | decide | exact fun h9 => absurd (by decide) h9) (by have := kKR_16.1 15 _ _ rfl; have := kKR_16.1 16 _ _ rfl; have := kKR_16.1 19 _ _ rfl; first | omega | decide | exact fun h9 => absurd (by decide) h9) (by have := kKR_16.1 15 _ _ rfl; have := kKR_16.1 16 _ _ rfl; have := kKR_16.1 19 _ _ rfl; first | omega | decide | exact fun h9 => absurd (by decide) h9) kKR_16 kKN_16 (by have := kKR_16.1 15 _ _ rfl; have := kKR_16.1 16 _ _ rfl; have := kKR_16.1 19 _ _ rfl; omega))
              · refine mv_iload_n d_TrustDeskModel_isThere_50 rfl rfl ?_
                have := mz_hi i3_16
                refine mv_if_eqZ (tgt := 95) (a := i3_16.toInt) d_TrustDeskModel_isThere_51 (by decide) rfl (fun b27 => ?_) (fun b27 => ?_)
                · refine mv_iload_n d_TrustDeskModel_isThere_95 rfl rfl ?_
                  have := mz_hi i1_2
                  refine mv_if_neZ (tgt := 103) (a := i1_2.toInt) d_TrustDeskModel_isThere_96 (by decide) rfl (fun b28 => ?_) (fun b28 => ?_)
                  · refine mv_iconst (v := 1) d_TrustDeskModel_isThere_103 (by decide) ?_
                    refine mv_goto (tgt := 108) d_TrustDeskModel_isThere_104 (by decide) ?_
                    refine mv_istore_n (lv' := [(1, .int 1), (4, .int i4_16), (3, .int i3_16), (2, .int i2_2), (0, .ref o0)]) d_TrustDeskModel_isThere_108 rfl (by decide) rfl ?_
                    refine mv_iinc (v := (i2_2 + 1)) (lv' := [(2, .int (i2_2 + 1)), (1, .int 1), (4, .int i4_16), (3, .int i3_16), (0, .ref o0)]) d_TrustDeskModel_isThere_109 rfl rfl (by decide) rfl ?_
                    refine mv_goto (tgt := 4) d_TrustDeskModel_isThere_112 (by decide) ?_
                    refine mv_locals (lv' := [(2, .int (i2_2 + 1)), (1, .int 1), (0, .ref o0)]) (by intro q hq; simp only [List.mem_cons, List.not_mem_nil, or_false] at hq; rcases hq with rfl | rfl | rfl <;> rfl) ?_
                    have b29 : (i2_2 + 1).toInt = i2_2.toInt + 1 := mz_addn 1 1 (by decide) (by have := mz_lo i2_2; omega) (by have := mz_hi i2_2; omega)
                    exact (ih2 (i2_2 + 1) 1 T_16 M_16 n_16 I_16 h_q0_16 (by have := kKR_16.1 15 _ _ rfl; have := kKR_16.1 16 _ _ rfl; have := kKR_16.1 19 _ _ rfl; first | omega | decide | exact fun h9 => absurd (by decide) h9) (by have := kKR_16.1 15 _ _ rfl; have := kKR_16.1 16 _ _ rfl; have := kKR_16.1 19 _ _ rfl; first | omega | decide | exact fun h9 => absurd (by decide) h9) (by have := kKR_16.1 15 _ _ rfl; have := kKR_16.1 16 _ _ rfl; have := kKR_16.1 19 _ _ rfl; first | omega | decide | exact fun h9 => absurd (by decide) h9) (by have := kKR_16.1 15 _ _ rfl; have := kKR_16.1 16 _ _ rfl; have := kKR_16.1 19 _ _ rfl; first | omega | decide | exact fun h9 => absurd (by decide) h9) (by have := kKR_16.1 15 _ _ rfl; have := kKR_16.1 16 _ _ rfl; have := kKR_16.1 19 _ _ rfl; first | omega | decide | exact fun h9 => absurd (by decide) h9) (by have := kKR_16.1 15 _ _ rfl; have := kKR_16.1 16 _ _ rfl; have := kKR_16.1 19 _ _ rfl; first | omega | decide | exact fun h9 => absurd (by decide) h9) kKR_16 kKN_16 (by have := kKR_16.1 15 _ _ rfl; have := kKR_16.1 16 _ _ rfl; have := kKR_16.1 19 _ _ rfl; omega))
                  · refine mv_iload_n d_TrustDeskModel_isThere_99 rfl rfl ?_
                    have := mz_hi i3_16
                    refine mv_if_eqZ (tgt := 107) (a := i3_16.toInt) d_TrustDeskModel_isThere_100 (by decide) rfl (fun b30 => ?_) (fun b30 => absurd b30 (by omega))
                    refine mv_iconst (v := 0) d_TrustDeskModel_isThere_107 (by decide) ?_
                    refine mv_istore_n (lv' := [(1, .int 0), (4, .int i4_16), (3, .int i3_16), (2, .int i2_2), (0, .ref o0)]) d_TrustDeskModel_isThere_108 rfl (by decide) rfl ?_
                    refine mv_iinc (v := (i2_2 + 1)) (lv' := [(2, .int (i2_2 + 1)), (1, .int 0), (4, .int i4_16), (3, .int i3_16), (0, .ref o0)]) d_TrustDeskModel_isThere_109 rfl rfl (by decide) rfl ?_
                    refine mv_goto (tgt := 4) d_TrustDeskModel_isThere_112 (by decide) ?_
                    refine mv_locals (lv' := [(2, .int (i2_2 + 1)), (1, .int 0), (0, .ref o0)]) (by intro q hq; simp only [List.mem_cons, List.not_mem_nil, or_false] at hq; rcases hq with rfl | rfl | rfl <;> rfl) ?_
                    have b31 : (i2_2 + 1).toInt = i2_2.toInt + 1 := mz_addn 1 1 (by decide) (by have := mz_lo i2_2; omega) (by have := mz_hi i2_2; omega)
                    exact (ih2 (i2_2 + 1) 0 T_16 M_16 n_16 I_16 h_q0_16 (by have := kKR_16.1 15 _ _ rfl; have := kKR_16.1 16 _ _ rfl; have := kKR_16.1 19 _ _ rfl; first | omega | decide | exact fun h9 => absurd (by decide) h9) (by have := kKR_16.1 15 _ _ rfl; have := kKR_16.1 16 _ _ rfl; have := kKR_16.1 19 _ _ rfl; first | omega | decide | exact fun h9 => absurd (by decide) h9) (by have := kKR_16.1 15 _ _ rfl; have := kKR_16.1 16 _ _ rfl; have := kKR_16.1 19 _ _ rfl; first | omega | decide | exact fun h9 => absurd (by decide) h9) (by have := kKR_16.1 15 _ _ rfl; have := kKR_16.1 16 _ _ rfl; have := kKR_16.1 19 _ _ rfl; first | omega | decide | exact fun h9 => absurd (by decide) h9) (by have := kKR_16.1 15 _ _ rfl; have := kKR_16.1 16 _ _ rfl; have := kKR_16.1 19 _ _ rfl; first | omega | decide | exact fun h9 => absurd (by decide) h9) (by have := kKR_16.1 15 _ _ rfl; have := kKR_16.1 16 _ _ rfl; have := kKR_16.1 19 _ _ rfl; first | omega | decide | exact fun h9 => absurd (by decide) h9) kKR_16 kKN_16 (by have := kKR_16.1 15 _ _ rfl; have := kKR_16.1 16 _ _ rfl; have := kKR_16.1 19 _ _ rfl; omega))
                · refine mv_aload_n d_TrustDeskModel_isThere_54 rfl rfl ?_
                  obtain ⟨a33, q32, t_a33⟩ := tm_atR I_16 h_q0_16 (k := 13) rfl
                  refine tr_getK q32 d_TrustDeskModel_isThere_55 f_TrustDeskModel_44_13 ?_
                  refine mv_aload_n d_TrustDeskModel_isThere_58 rfl rfl ?_
                  obtain ⟨v35, q34⟩ := tm_atI I_16 h_q0_16 (k := 16) rfl
                  refine tr_getK q34 d_TrustDeskModel_isThere_59 f_TrustDeskModel_195_13 ?_
                  have := kKR_16.f (k := 16) q34 rfl
                  have := tm_rv q34
                  refine mv_iload d_TrustDeskModel_isThere_62 rfl ?_
                  refine mv_iadd d_TrustDeskModel_isThere_64 ?_
                  have b36 : (v35 + i4_16 : Int32).toInt = (v35.toInt + i4_16.toInt) := mz_add2 rfl rfl (by have := kKR_16.1 15 _ _ rfl; have := kKR_16.1 16 _ _ rfl; have := kKR_16.1 19 _ _ rfl; omega) (by have := kKR_16.1 15 _ _ rfl; have := kKR_16.1 16 _ _ rfl; have := kKR_16.1 19 _ _ rfl; omega)
                  refine tr_baldR (o := o0) (k := 13) I_16 q32 t_a33 (by decide) d_TrustDeskModel_isThere_65 (vp_in_iff.mpr (by have := kKR_16.1 15 _ _ rfl; have := kKR_16.1 16 _ _ rfl; have := kKR_16.1 19 _ _ rfl; omega)) (fun v37 e38 => ?_)
                  have := kKR_16.a (k := 13) rfl ((v35 + i4_16) : Int32).toNatClampNeg
                  refine mv_aload_n d_TrustDeskModel_isThere_66 rfl rfl ?_
                  refine tr_getK (k := 13) q32 d_TrustDeskModel_isThere_67 f_TrustDeskModel_44_13 ?_
                  refine mv_aload_n d_TrustDeskModel_isThere_70 rfl rfl ?_
                  obtain ⟨a40, q39, t_a40⟩ := tm_atR I_16 h_q0_16 (k := 25) rfl
                  refine tr_getK q39 d_TrustDeskModel_isThere_71 f_TrustDeskModel_51_13 ?_
                  refine mv_iload_n d_TrustDeskModel_isThere_74 rfl rfl ?_
                  refine tr_ialdR (o := o0) (k := 25) I_16 q39 t_a40 (by decide) d_TrustDeskModel_isThere_75 (vp_in_iff.mpr (by have := kKR_16.1 15 _ _ rfl; have := kKR_16.1 16 _ _ rfl; have := kKR_16.1 19 _ _ rfl; omega)) (fun v41 e42 => ?_)
                  have := kKR_16.a (k := 25) rfl (i2_2 : Int32).toNatClampNeg
                  have := kKN_16 i2_2.toNatClampNeg (by rw [mz_nat9 (by have := kKR_16.1 15 _ _ rfl; have := kKR_16.1 16 _ _ rfl; have := kKR_16.1 19 _ _ rfl; omega)]; have := kKR_16.1 15 _ _ rfl; have := kKR_16.1 16 _ _ rfl; have := kKR_16.1 19 _ _ rfl; omega)
                  refine mv_iload d_TrustDeskModel_isThere_76 rfl ?_
                  refine mv_iadd d_TrustDeskModel_isThere_78 ?_
                  have b43 : (v41 + i4_16 : Int32).toInt = (v41.toInt + i4_16.toInt) := mz_add2 rfl rfl (by have := kKR_16.1 15 _ _ rfl; have := kKR_16.1 16 _ _ rfl; have := kKR_16.1 19 _ _ rfl; omega) (by have := kKR_16.1 15 _ _ rfl; have := kKR_16.1 16 _ _ rfl; have := kKR_16.1 19 _ _ rfl; omega)
                  refine tr_baldR (o := o0) (k := 13) I_16 q32 t_a33 (by decide) d_TrustDeskModel_isThere_79 (vp_in_iff.mpr (by have := kKR_16.1 15 _ _ rfl; have := kKR_16.1 16 _ _ rfl; have := kKR_16.1 19 _ _ rfl; omega)) (fun v44 e45 => ?_)
                  have := kKR_16.a (k := 13) rfl ((v41 + i4_16) : Int32).toNatClampNeg
                  have := mz_hi v37
                  have := mz_hi v44
                  refine mv_icmp_neZ (tgt := 87) (a := v37.toInt) (b := v44.toInt) d_TrustDeskModel_isThere_80 (by decide) rfl rfl (fun b46 => ?_) (fun b46 => ?_)
                  · refine mv_iconst (v := 0) d_TrustDeskModel_isThere_87 (by decide) ?_
                    refine mv_istore_n (lv' := [(3, .int 0), (4, .int i4_16), (2, .int i2_2), (1, .int i1_2), (0, .ref o0)]) d_TrustDeskModel_isThere_88 rfl (by decide) rfl ?_
                    refine mv_iinc (v := (i4_16 + 1)) (lv' := [(4, .int (i4_16 + 1)), (3, .int 0), (2, .int i2_2), (1, .int i1_2), (0, .ref o0)]) d_TrustDeskModel_isThere_89 rfl rfl (by decide) rfl ?_
                    refine mv_goto (tgt := 39) d_TrustDeskModel_isThere_92 (by decide) ?_
                    have b47 : (i4_16 + 1).toInt = i4_16.toInt + 1 := mz_addn 1 1 (by decide) (by have := mz_lo i4_16; omega) (by have := mz_hi i4_16; omega)
                    exact (ih16 (i4_16 + 1) 0 T_16 M_16 n_16 I_16 h_q0_16 (by have := kKR_16.1 15 _ _ rfl; have := kKR_16.1 16 _ _ rfl; have := kKR_16.1 19 _ _ rfl; first | omega | decide | exact fun h9 => absurd (by decide) h9) (by have := kKR_16.1 15 _ _ rfl; have := kKR_16.1 16 _ _ rfl; have := kKR_16.1 19 _ _ rfl; first | omega | decide | exact fun h9 => absurd (by decide) h9) (by have := kKR_16.1 15 _ _ rfl; have := kKR_16.1 16 _ _ rfl; have := kKR_16.1 19 _ _ rfl; first | omega | decide | exact fun h9 => absurd (by decide) h9) (by have := kKR_16.1 15 _ _ rfl; have := kKR_16.1 16 _ _ rfl; have := kKR_16.1 19 _ _ rfl; first | omega | decide | exact fun h9 => absurd (by decide) h9) (by have := kKR_16.1 15 _ _ rfl; have := kKR_16.1 16 _ _ rfl; have := kKR_16.1 19 _ _ rfl; first | omega | decide | exact fun h9 => absurd (by decide) h9) (by have := kKR_16.1 15 _ _ rfl; have := kKR_16.1 16 _ _ rfl; have := kKR_16.1 19 _ _ rfl; first | omega | decide | exact fun h9 => absurd (by decide) h9) (by have := kKR_16.1 15 _ _ rfl; have := kKR_16.1 16 _ _ rfl; have := kKR_16.1 19 _ _ rfl; first | omega | decide | exact fun h9 => absurd (by decide) h9) (by have := kKR_16.1 15 _ _ rfl; have := kKR_16.1 16 _ _ rfl; have := kKR_16.1 19 _ _ rfl; first | omega | decide | exact fun h9 => absurd (by decide) h9) (by have := kKR_16.1 15 _ _ rfl; have := kKR_16.1 16 _ _ rfl; have := kKR_16.1 19 _ _ rfl; first | omega | decide | exact fun h9 => absurd (by decide) h9) kKR_16 kKN_16 (by have := kKR_16.1 15 _ _ rfl; have := kKR_16.1 16 _ _ rfl; have := kKR_16.1 19 _ _ rfl; omega))
                  · refine mv_iconst (v := 1) d_TrustDeskModel_isThere_83 (by decide) ?_
                    refine mv_goto (tgt := 88) d_TrustDeskModel_isThere_84 (by decide) ?_
                    refine mv_istore_n (lv' := [(3, .int 1), (4, .int i4_16), (2, .int i2_2), (1, .int i1_2), (0, .ref o0)]) d_TrustDeskModel_isThere_88 rfl (by decide) rfl ?_
                    refine mv_iinc (v := (i4_16 + 1)) (lv' := [(4, .int (i4_16 + 1)), (3, .int 1), (2, .int i2_2), (1, .int i1_2), (0, .ref o0)]) d_TrustDeskModel_isThere_89 rfl rfl (by decide) rfl ?_
                    refine mv_goto (tgt := 39) d_TrustDeskModel_isThere_92 (by decide) ?_
                    have b48 : (i4_16 + 1).toInt = i4_16.toInt + 1 := mz_addn 1 1 (by decide) (by have := mz_lo i4_16; omega) (by have := mz_hi i4_16; omega)
                    exact (ih16 (i4_16 + 1) 1 T_16 M_16 n_16 I_16 h_q0_16 (by have := kKR_16.1 15 _ _ rfl; have := kKR_16.1 16 _ _ rfl; have := kKR_16.1 19 _ _ rfl; first | omega | decide | exact fun h9 => absurd (by decide) h9) (by have := kKR_16.1 15 _ _ rfl; have := kKR_16.1 16 _ _ rfl; have := kKR_16.1 19 _ _ rfl; first | omega | decide | exact fun h9 => absurd (by decide) h9) (by have := kKR_16.1 15 _ _ rfl; have := kKR_16.1 16 _ _ rfl; have := kKR_16.1 19 _ _ rfl; first | omega | decide | exact fun h9 => absurd (by decide) h9) (by have := kKR_16.1 15 _ _ rfl; have := kKR_16.1 16 _ _ rfl; have := kKR_16.1 19 _ _ rfl; first | omega | decide | exact fun h9 => absurd (by decide) h9) (by have := kKR_16.1 15 _ _ rfl; have := kKR_16.1 16 _ _ rfl; have := kKR_16.1 19 _ _ rfl; first | omega | decide | exact fun h9 => absurd (by decide) h9) (by have := kKR_16.1 15 _ _ rfl; have := kKR_16.1 16 _ _ rfl; have := kKR_16.1 19 _ _ rfl; first | omega | decide | exact fun h9 => absurd (by decide) h9) (by have := kKR_16.1 15 _ _ rfl; have := kKR_16.1 16 _ _ rfl; have := kKR_16.1 19 _ _ rfl; first | omega | decide | exact fun h9 => absurd (by decide) h9) (by have := kKR_16.1 15 _ _ rfl; have := kKR_16.1 16 _ _ rfl; have := kKR_16.1 19 _ _ rfl; first | omega | decide | exact fun h9 => absurd (by decide) h9) (by have := kKR_16.1 15 _ _ rfl; have := kKR_16.1 16 _ _ rfl; have := kKR_16.1 19 _ _ rfl; first | omega | decide | exact fun h9 => absurd (by decide) h9) kKR_16 kKN_16 (by have := kKR_16.1 15 _ _ rfl; have := kKR_16.1 16 _ _ rfl; have := kKR_16.1 19 _ _ rfl; omega))
          exact mv_less (Nat.zero_le _) (Nat.zero_le _) (L39_16 4294967296 0 0 T_2 M_2 n_2 I_2 h_q0_2 (by have := kKR_2.1 15 _ _ rfl; have := kKR_2.1 16 _ _ rfl; have := kKR_2.1 19 _ _ rfl; first | omega | decide | exact fun h9 => absurd (by decide) h9) (by have := kKR_2.1 15 _ _ rfl; have := kKR_2.1 16 _ _ rfl; have := kKR_2.1 19 _ _ rfl; first | omega | decide | exact fun h9 => absurd (by decide) h9) (by have := kKR_2.1 15 _ _ rfl; have := kKR_2.1 16 _ _ rfl; have := kKR_2.1 19 _ _ rfl; first | omega | decide | exact fun h9 => absurd (by decide) h9) (by have := kKR_2.1 15 _ _ rfl; have := kKR_2.1 16 _ _ rfl; have := kKR_2.1 19 _ _ rfl; first | omega | decide | exact fun h9 => absurd (by decide) h9) (by have := kKR_2.1 15 _ _ rfl; have := kKR_2.1 16 _ _ rfl; have := kKR_2.1 19 _ _ rfl; first | omega | decide | exact fun h9 => absurd (by decide) h9) (by have := kKR_2.1 15 _ _ rfl; have := kKR_2.1 16 _ _ rfl; have := kKR_2.1 19 _ _ rfl; first | omega | decide | exact fun h9 => absurd (by decide) h9) (by have := kKR_2.1 15 _ _ rfl; have := kKR_2.1 16 _ _ rfl; have := kKR_2.1 19 _ _ rfl; first | omega | decide | exact fun h9 => absurd (by decide) h9) (by have := kKR_2.1 15 _ _ rfl; have := kKR_2.1 16 _ _ rfl; have := kKR_2.1 19 _ _ rfl; first | omega | decide | exact fun h9 => absurd (by decide) h9) (by have := kKR_2.1 15 _ _ rfl; have := kKR_2.1 16 _ _ rfl; have := kKR_2.1 19 _ _ rfl; first | omega | decide | exact fun h9 => absurd (by decide) h9) kKR_2 kKN_2 (by show (2147483647 - (0 : Int) : Int) < _; decide))
        · refine mv_iconst (v := 1) d_TrustDeskModel_isThere_30 (by decide) ?_
          refine mv_goto (tgt := 35) d_TrustDeskModel_isThere_31 (by decide) ?_
          refine mv_istore_n (lv' := [(3, .int 1), (2, .int i2_2), (1, .int i1_2), (0, .ref o0)]) d_TrustDeskModel_isThere_35 rfl (by decide) rfl ?_
          refine mv_iconst (v := 0) d_TrustDeskModel_isThere_36 (by decide) ?_
          refine mv_istore (lv' := [(4, .int 0), (3, .int 1), (2, .int i2_2), (1, .int i1_2), (0, .ref o0)]) d_TrustDeskModel_isThere_37 (by decide) rfl ?_
          have L39_49 : ∀ (k : Nat) (i4_49 : Int32) (i3_49 : Int32) (T_49 : tm_H) (M_49 : mj_M) (n_49 : Nat), tm_I tm_FT (tm_in w_TrustDeskModel_isThere_x) x9 T0 M0 n0 T_49 M_49 n_49 → T_49 o0 = some (0, 13, 0) → 0 ≤ i4_49.toInt → rv M_49 o0 15 = rv M0 o0 15 → rv M_49 o0 16 = rv M0 o0 16 → rv M_49 o0 24 = rv M0 o0 24 → 0 ≤ i2_2.toInt → i2_2.toInt < rv M_49 o0 24 → 0 ≤ i3_49.toInt → i3_49.toInt ≤ 1 → (i3_49.toInt ≠ 0 → ra M_49 o0 26 (i2_2).toNatClampNeg = rv M0 o0 15 - rv M0 o0 16) → (rI M_49 o0) → (nN M_49 o0) → 2147483647 - i4_49.toInt < (k : Int) → mj_V g l kY_TrustDeskModel_isThere d 39 [(4, .int i4_49), (3, .int i3_49), (2, .int i2_2), (1, .int i1_2), (0, .ref o0)] [] M_49 n_49 0 0 (tm_Q tm_FT (tm_in w_TrustDeskModel_isThere_x) x9 T0 M0 n0 (fun r _ M => ∃ v : Int32, r = some (.int v) ∧ 0 ≤ v.toInt ∧ v.toInt ≤ 1 ∧ rI M o0)) := by
            intro k49
            induction k49 with
            | zero =>
              intro i4_49 i3_49 T_49 M_49 n_49 I_49 h_q0_49 iv0_49 iv1_49 iv2_49 iv3_49 iv4_49 iv5_49 iv6_49 iv7_49 iv8_49 kKR_49 kKN_49 hk49
              have := mz_hi i4_49
              have := kKR_49.1 15 _ _ rfl
              have := kKR_49.1 16 _ _ rfl
              have := kKR_49.1 19 _ _ rfl
              omega
            | succ k49 ih49 =>
              intro i4_49 i3_49 T_49 M_49 n_49 I_49 h_q0_49 iv0_49 iv1_49 iv2_49 iv3_49 iv4_49 iv5_49 iv6_49 iv7_49 iv8_49 kKR_49 kKN_49 hk49
              refine mv_iload d_TrustDeskModel_isThere_39 rfl ?_
              refine mv_aload_n d_TrustDeskModel_isThere_41 rfl rfl ?_
              obtain ⟨a51, q50, t_a51⟩ := tm_atR I_49 h_q0_49 (k := 26) rfl
              refine tr_getK q50 d_TrustDeskModel_isThere_42 f_TrustDeskModel_54_13 ?_
              refine mv_iload_n d_TrustDeskModel_isThere_45 rfl rfl ?_
              refine tr_ialdR (o := o0) (k := 26) I_49 q50 t_a51 (by decide) d_TrustDeskModel_isThere_46 (vp_in_iff.mpr (by have := kKR_49.1 15 _ _ rfl; have := kKR_49.1 16 _ _ rfl; have := kKR_49.1 19 _ _ rfl; omega)) (fun v52 e53 => ?_)
              have := kKR_49.a (k := 26) rfl (i2_2 : Int32).toNatClampNeg
              have := kKN_49 i2_2.toNatClampNeg (by rw [mz_nat9 (by have := kKR_49.1 15 _ _ rfl; have := kKR_49.1 16 _ _ rfl; have := kKR_49.1 19 _ _ rfl; omega)]; have := kKR_49.1 15 _ _ rfl; have := kKR_49.1 16 _ _ rfl; have := kKR_49.1 19 _ _ rfl; omega)
              have := mz_hi i4_49
              have := mz_hi v52
              refine mv_icmp_geZ (tgt := 95) (a := i4_49.toInt) (b := v52.toInt) d_TrustDeskModel_isThere_47 (by decide) rfl rfl (fun b54 => ?_) (fun b54 => ?_)
              · refine mv_iload_n d_TrustDeskModel_isThere_95 rfl rfl ?_
                have := mz_hi i1_2
                refine mv_if_neZ (tgt := 103) (a := i1_2.toInt) d_TrustDeskModel_isThere_96 (by decide) rfl (fun b55 => ?_) (fun b55 => ?_)
                · refine mv_iconst (v := 1) d_TrustDeskModel_isThere_103 (by decide) ?_
                  refine mv_goto (tgt := 108) d_TrustDeskModel_isThere_104 (by decide) ?_
                  refine mv_istore_n (lv' := [(1, .int 1), (4, .int i4_49), (3, .int i3_49), (2, .int i2_2), (0, .ref o0)]) d_TrustDeskModel_isThere_108 rfl (by decide) rfl ?_
                  refine mv_iinc (v := (i2_2 + 1)) (lv' := [(2, .int (i2_2 + 1)), (1, .int 1), (4, .int i4_49), (3, .int i3_49), (0, .ref o0)]) d_TrustDeskModel_isThere_109 rfl rfl (by decide) rfl ?_
                  refine mv_goto (tgt := 4) d_TrustDeskModel_isThere_112 (by decide) ?_
                  refine mv_locals (lv' := [(2, .int (i2_2 + 1)), (1, .int 1), (0, .ref o0)]) (by intro q hq; simp only [List.mem_cons, List.not_mem_nil, or_false] at hq; rcases hq with rfl | rfl | rfl <;> rfl) ?_
                  have b56 : (i2_2 + 1).toInt = i2_2.toInt + 1 := mz_addn 1 1 (by decide) (by have := mz_lo i2_2; omega) (by have := mz_hi i2_2; omega)
                  exact (ih2 (i2_2 + 1) 1 T_49 M_49 n_49 I_49 h_q0_49 (by have := kKR_49.1 15 _ _ rfl; have := kKR_49.1 16 _ _ rfl; have := kKR_49.1 19 _ _ rfl; first | omega | decide | exact fun h9 => absurd (by decide) h9) (by have := kKR_49.1 15 _ _ rfl; have := kKR_49.1 16 _ _ rfl; have := kKR_49.1 19 _ _ rfl; first | omega | decide | exact fun h9 => absurd (by decide) h9) (by have := kKR_49.1 15 _ _ rfl; have := kKR_49.1 16 _ _ rfl; have := kKR_49.1 19 _ _ rfl; first | omega | decide | exact fun h9 => absurd (by decide) h9) (by have := kKR_49.1 15 _ _ rfl; have := kKR_49.1 16 _ _ rfl; have := kKR_49.1 19 _ _ rfl; first | omega | decide | exact fun h9 => absurd (by decide) h9) (by have := kKR_49.1 15 _ _ rfl; have := kKR_49.1 16 _ _ rfl; have := kKR_49.1 19 _ _ rfl; first | omega | decide | exact fun h9 => absurd (by decide) h9) (by have := kKR_49.1 15 _ _ rfl; have := kKR_49.1 16 _ _ rfl; have := kKR_49.1 19 _ _ rfl; first | omega | decide | exact fun h9 => absurd (by decide) h9) kKR_49 kKN_49 (by have := kKR_49.1 15 _ _ rfl; have := kKR_49.1 16 _ _ rfl; have := kKR_49.1 19 _ _ rfl; omega))
                · refine mv_iload_n d_TrustDeskModel_isThere_99 rfl rfl ?_
                  have := mz_hi i3_49
                  refine mv_if_eqZ (tgt := 107) (a := i3_49.toInt) d_TrustDeskModel_isThere_100 (by decide) rfl (fun b57 => ?_) (fun b57 => ?_)
                  · refine mv_iconst (v := 0) d_TrustDeskModel_isThere_107 (by decide) ?_
                    refine mv_istore_n (lv' := [(1, .int 0), (4, .int i4_49), (3, .int i3_49), (2, .int i2_2), (0, .ref o0)]) d_TrustDeskModel_isThere_108 rfl (by decide) rfl ?_
                    refine mv_iinc (v := (i2_2 + 1)) (lv' := [(2, .int (i2_2 + 1)), (1, .int 0), (4, .int i4_49), (3, .int i3_49), (0, .ref o0)]) d_TrustDeskModel_isThere_109 rfl rfl (by decide) rfl ?_
                    refine mv_goto (tgt := 4) d_TrustDeskModel_isThere_112 (by decide) ?_
                    refine mv_locals (lv' := [(2, .int (i2_2 + 1)), (1, .int 0), (0, .ref o0)]) (by intro q hq; simp only [List.mem_cons, List.not_mem_nil, or_false] at hq; rcases hq with rfl | rfl | rfl <;> rfl) ?_
                    have b58 : (i2_2 + 1).toInt = i2_2.toInt + 1 := mz_addn 1 1 (by decide) (by have := mz_lo i2_2; omega) (by have := mz_hi i2_2; omega)
                    exact (ih2 (i2_2 + 1) 0 T_49 M_49 n_49 I_49 h_q0_49 (by have := kKR_49.1 15 _ _ rfl; have := kKR_49.1 16 _ _ rfl; have := kKR_49.1 19 _ _ rfl; first | omega | decide | exact fun h9 => absurd (by decide) h9) (by have := kKR_49.1 15 _ _ rfl; have := kKR_49.1 16 _ _ rfl; have := kKR_49.1 19 _ _ rfl; first | omega | decide | exact fun h9 => absurd (by decide) h9) (by have := kKR_49.1 15 _ _ rfl; have := kKR_49.1 16 _ _ rfl; have := kKR_49.1 19 _ _ rfl; first | omega | decide | exact fun h9 => absurd (by decide) h9) (by have := kKR_49.1 15 _ _ rfl; have := kKR_49.1 16 _ _ rfl; have := kKR_49.1 19 _ _ rfl; first | omega | decide | exact fun h9 => absurd (by decide) h9) (by have := kKR_49.1 15 _ _ rfl; have := kKR_49.1 16 _ _ rfl; have := kKR_49.1 19 _ _ rfl; first | omega | decide | exact fun h9 => absurd (by decide) h9) (by have := kKR_49.1 15 _ _ rfl; have := kKR_49.1 16 _ _ rfl; have := kKR_49.1 19 _ _ rfl; first | omega | decide | exact fun h9 => absurd (by decide) h9) kKR_49 kKN_49 (by have := kKR_49.1 15 _ _ rfl; have := kKR_49.1 16 _ _ rfl; have := kKR_49.1 19 _ _ rfl; omega))
                  · refine mv_iconst (v := 1) d_TrustDeskModel_isThere_103 (by decide) ?_
                    refine mv_goto (tgt := 108) d_TrustDeskModel_isThere_104 (by decide) ?_
                    refine mv_istore_n (lv' := [(1, .int 1), (4, .int i4_49), (3, .int i3_49), (2, .int i2_2), (0, .ref o0)]) d_TrustDeskModel_isThere_108 rfl (by decide) rfl ?_
                    refine mv_iinc (v := (i2_2 + 1)) (lv' := [(2, .int (i2_2 + 1)), (1, .int 1), (4, .int i4_49), (3, .int i3_49), (0, .ref o0)]) d_TrustDeskModel_isThere_109 rfl rfl (by decide) rfl ?_
                    refine mv_goto (tgt := 4) d_TrustDeskModel_isThere_112 (by decide) ?_
                    refine mv_locals (lv' := [(2, .int (i2_2 + 1)), (1, .int 1), (0, .ref o0)]) (by intro q hq; simp only [List.mem_cons, List.not_mem_nil, or_false] at hq; rcases hq with rfl | rfl | rfl <;> rfl) ?_
                    have b59 : (i2_2 + 1).toInt = i2_2.toInt + 1 := mz_addn 1 1 (by decide) (by have := mz_lo i2_2; omega) (by have := mz_hi i2_2; omega)
                    exact (ih2 (i2_2 + 1) 1 T_49 M_49 n_49 I_49 h_q0_49 (by have := kKR_49.1 15 _ _ rfl; have := kKR_49.1 16 _ _ rfl; have := kKR_49.1 19 _ _ rfl; first | omega | decide | exact fun h9 => absurd (by decide) h9) (by have := kKR_49.1 15 _ _ rfl; have := kKR_49.1 16 _ _ rfl; have := kKR_49.1 19 _ _ rfl; first | omega | decide | exact fun h9 => absurd (by decide) h9) (by have := kKR_49.1 15 _ _ rfl; have := kKR_49.1 16 _ _ rfl; have := kKR_49.1 19 _ _ rfl; first | omega | decide | exact fun h9 => absurd (by decide) h9) (by have := kKR_49.1 15 _ _ rfl; have := kKR_49.1 16 _ _ rfl; have := kKR_49.1 19 _ _ rfl; first | omega | decide | exact fun h9 => absurd (by decide) h9) (by have := kKR_49.1 15 _ _ rfl; have := kKR_49.1 16 _ _ rfl; have := kKR_49.1 19 _ _ rfl; first | omega | decide | exact fun h9 => absurd (by decide) h9) (by have := kKR_49.1 15 _ _ rfl; have := kKR_49.1 16 _ _ rfl; have := kKR_49.1 19 _ _ rfl; first | omega | decide | exact fun h9 => absurd (by decide) h9) kKR_49 kKN_49 (by have := kKR_49.1 15 _ _ rfl; have := kKR_49.1 16 _ _ rfl; have := kKR_49.1 19 _ _ rfl; omega))
              · refine mv_iload_n d_TrustDeskModel_isThere_50 rfl rfl ?_
                have := mz_hi i3_49
                refine mv_if_eqZ (tgt := 95) (a := i3_49.toInt) d_TrustDeskModel_isThere_51 (by decide) rfl (fun b60 => ?_) (fun b60 => ?_)
                · refine mv_iload_n d_TrustDeskModel_isThere_95 rfl rfl ?_
                  have := mz_hi i1_2
                  refine mv_if_neZ (tgt := 103) (a := i1_2.toInt) d_TrustDeskModel_isThere_96 (by decide) rfl (fun b61 => ?_) (fun b61 => ?_)
                  · refine mv_iconst (v := 1) d_TrustDeskModel_isThere_103 (by decide) ?_
                    refine mv_goto (tgt := 108) d_TrustDeskModel_isThere_104 (by decide) ?_
                    refine mv_istore_n (lv' := [(1, .int 1), (4, .int i4_49), (3, .int i3_49), (2, .int i2_2), (0, .ref o0)]) d_TrustDeskModel_isThere_108 rfl (by decide) rfl ?_
                    refine mv_iinc (v := (i2_2 + 1)) (lv' := [(2, .int (i2_2 + 1)), (1, .int 1), (4, .int i4_49), (3, .int i3_49), (0, .ref o0)]) d_TrustDeskModel_isThere_109 rfl rfl (by decide) rfl ?_
                    refine mv_goto (tgt := 4) d_TrustDeskModel_isThere_112 (by decide) ?_
                    refine mv_locals (lv' := [(2, .int (i2_2 + 1)), (1, .int 1), (0, .ref o0)]) (by intro q hq; simp only [List.mem_cons, List.not_mem_nil, or_false] at hq; rcases hq with rfl | rfl | rfl <;> rfl) ?_
                    have b62 : (i2_2 + 1).toInt = i2_2.toInt + 1 := mz_addn 1 1 (by decide) (by have := mz_lo i2_2; omega) (by have := mz_hi i2_2; omega)
                    exact (ih2 (i2_2 + 1) 1 T_49 M_49 n_49 I_49 h_q0_49 (by have := kKR_49.1 15 _ _ rfl; have := kKR_49.1 16 _ _ rfl; have := kKR_49.1 19 _ _ rfl; first | omega | decide | exact fun h9 => absurd (by decide) h9) (by have := kKR_49.1 15 _ _ rfl; have := kKR_49.1 16 _ _ rfl; have := kKR_49.1 19 _ _ rfl; first | omega | decide | exact fun h9 => absurd (by decide) h9) (by have := kKR_49.1 15 _ _ rfl; have := kKR_49.1 16 _ _ rfl; have := kKR_49.1 19 _ _ rfl; first | omega | decide | exact fun h9 => absurd (by decide) h9) (by have := kKR_49.1 15 _ _ rfl; have := kKR_49.1 16 _ _ rfl; have := kKR_49.1 19 _ _ rfl; first | omega | decide | exact fun h9 => absurd (by decide) h9) (by have := kKR_49.1 15 _ _ rfl; have := kKR_49.1 16 _ _ rfl; have := kKR_49.1 19 _ _ rfl; first | omega | decide | exact fun h9 => absurd (by decide) h9) (by have := kKR_49.1 15 _ _ rfl; have := kKR_49.1 16 _ _ rfl; have := kKR_49.1 19 _ _ rfl; first | omega | decide | exact fun h9 => absurd (by decide) h9) kKR_49 kKN_49 (by have := kKR_49.1 15 _ _ rfl; have := kKR_49.1 16 _ _ rfl; have := kKR_49.1 19 _ _ rfl; omega))
                  · refine mv_iload_n d_TrustDeskModel_isThere_99 rfl rfl ?_
                    have := mz_hi i3_49
                    refine mv_if_eqZ (tgt := 107) (a := i3_49.toInt) d_TrustDeskModel_isThere_100 (by decide) rfl (fun b63 => ?_) (fun b63 => absurd b63 (by omega))
                    refine mv_iconst (v := 0) d_TrustDeskModel_isThere_107 (by decide) ?_
                    refine mv_istore_n (lv' := [(1, .int 0), (4, .int i4_49), (3, .int i3_49), (2, .int i2_2), (0, .ref o0)]) d_TrustDeskModel_isThere_108 rfl (by decide) rfl ?_
                    refine mv_iinc (v := (i2_2 + 1)) (lv' := [(2, .int (i2_2 + 1)), (1, .int 0), (4, .int i4_49), (3, .int i3_49), (0, .ref o0)]) d_TrustDeskModel_isThere_109 rfl rfl (by decide) rfl ?_
                    refine mv_goto (tgt := 4) d_TrustDeskModel_isThere_112 (by decide) ?_
                    refine mv_locals (lv' := [(2, .int (i2_2 + 1)), (1, .int 0), (0, .ref o0)]) (by intro q hq; simp only [List.mem_cons, List.not_mem_nil, or_false] at hq; rcases hq with rfl | rfl | rfl <;> rfl) ?_
                    have b64 : (i2_2 + 1).toInt = i2_2.toInt + 1 := mz_addn 1 1 (by decide) (by have := mz_lo i2_2; omega) (by have := mz_hi i2_2; omega)
                    exact (ih2 (i2_2 + 1) 0 T_49 M_49 n_49 I_49 h_q0_49 (by have := kKR_49.1 15 _ _ rfl; have := kKR_49.1 16 _ _ rfl; have := kKR_49.1 19 _ _ rfl; first | omega | decide | exact fun h9 => absurd (by decide) h9) (by have := kKR_49.1 15 _ _ rfl; have := kKR_49.1 16 _ _ rfl; have := kKR_49.1 19 _ _ rfl; first | omega | decide | exact fun h9 => absurd (by decide) h9) (by have := kKR_49.1 15 _ _ rfl; have := kKR_49.1 16 _ _ rfl; have := kKR_49.1 19 _ _ rfl; first | omega | decide | exact fun h9 => absurd (by decide) h9) (by have := kKR_49.1 15 _ _ rfl; have := kKR_49.1 16 _ _ rfl; have := kKR_49.1 19 _ _ rfl; first | omega | decide | exact fun h9 => absurd (by decide) h9) (by have := kKR_49.1 15 _ _ rfl; have := kKR_49.1 16 _ _ rfl; have := kKR_49.1 19 _ _ rfl; first | omega | decide | exact fun h9 => absurd (by decide) h9) (by have := kKR_49.1 15 _ _ rfl; have := kKR_49.1 16 _ _ rfl; have := kKR_49.1 19 _ _ rfl; first | omega | decide | exact fun h9 => absurd (by decide) h9) kKR_49 kKN_49 (by have := kKR_49.1 15 _ _ rfl; have := kKR_49.1 16 _ _ rfl; have := kKR_49.1 19 _ _ rfl; omega))
                · refine mv_aload_n d_TrustDeskModel_isThere_54 rfl rfl ?_
                  obtain ⟨a66, q65, t_a66⟩ := tm_atR I_49 h_q0_49 (k := 13) rfl
                  refine tr_getK q65 d_TrustDeskModel_isThere_55 f_TrustDeskModel_44_13 ?_
                  refine mv_aload_n d_TrustDeskModel_isThere_58 rfl rfl ?_
                  obtain ⟨v68, q67⟩ := tm_atI I_49 h_q0_49 (k := 16) rfl
                  refine tr_getK q67 d_TrustDeskModel_isThere_59 f_TrustDeskModel_195_13 ?_
                  have := kKR_49.f (k := 16) q67 rfl
                  have := tm_rv q67
                  refine mv_iload d_TrustDeskModel_isThere_62 rfl ?_
                  refine mv_iadd d_TrustDeskModel_isThere_64 ?_
                  have b69 : (v68 + i4_49 : Int32).toInt = (v68.toInt + i4_49.toInt) := mz_add2 rfl rfl (by have := kKR_49.1 15 _ _ rfl; have := kKR_49.1 16 _ _ rfl; have := kKR_49.1 19 _ _ rfl; omega) (by have := kKR_49.1 15 _ _ rfl; have := kKR_49.1 16 _ _ rfl; have := kKR_49.1 19 _ _ rfl; omega)
                  refine tr_baldR (o := o0) (k := 13) I_49 q65 t_a66 (by decide) d_TrustDeskModel_isThere_65 (vp_in_iff.mpr (by have := kKR_49.1 15 _ _ rfl; have := kKR_49.1 16 _ _ rfl; have := kKR_49.1 19 _ _ rfl; omega)) (fun v70 e71 => ?_)
                  have := kKR_49.a (k := 13) rfl ((v68 + i4_49) : Int32).toNatClampNeg
                  refine mv_aload_n d_TrustDeskModel_isThere_66 rfl rfl ?_
                  refine tr_getK (k := 13) q65 d_TrustDeskModel_isThere_67 f_TrustDeskModel_44_13 ?_
                  refine mv_aload_n d_TrustDeskModel_isThere_70 rfl rfl ?_
                  obtain ⟨a73, q72, t_a73⟩ := tm_atR I_49 h_q0_49 (k := 25) rfl
                  refine tr_getK q72 d_TrustDeskModel_isThere_71 f_TrustDeskModel_51_13 ?_
                  refine mv_iload_n d_TrustDeskModel_isThere_74 rfl rfl ?_
                  refine tr_ialdR (o := o0) (k := 25) I_49 q72 t_a73 (by decide) d_TrustDeskModel_isThere_75 (vp_in_iff.mpr (by have := kKR_49.1 15 _ _ rfl; have := kKR_49.1 16 _ _ rfl; have := kKR_49.1 19 _ _ rfl; omega)) (fun v74 e75 => ?_)
                  have := kKR_49.a (k := 25) rfl (i2_2 : Int32).toNatClampNeg
                  have := kKN_49 i2_2.toNatClampNeg (by rw [mz_nat9 (by have := kKR_49.1 15 _ _ rfl; have := kKR_49.1 16 _ _ rfl; have := kKR_49.1 19 _ _ rfl; omega)]; have := kKR_49.1 15 _ _ rfl; have := kKR_49.1 16 _ _ rfl; have := kKR_49.1 19 _ _ rfl; omega)
                  refine mv_iload d_TrustDeskModel_isThere_76 rfl ?_
                  refine mv_iadd d_TrustDeskModel_isThere_78 ?_
                  have b76 : (v74 + i4_49 : Int32).toInt = (v74.toInt + i4_49.toInt) := mz_add2 rfl rfl (by have := kKR_49.1 15 _ _ rfl; have := kKR_49.1 16 _ _ rfl; have := kKR_49.1 19 _ _ rfl; omega) (by have := kKR_49.1 15 _ _ rfl; have := kKR_49.1 16 _ _ rfl; have := kKR_49.1 19 _ _ rfl; omega)
                  refine tr_baldR (o := o0) (k := 13) I_49 q65 t_a66 (by decide) d_TrustDeskModel_isThere_79 (vp_in_iff.mpr (by have := kKR_49.1 15 _ _ rfl; have := kKR_49.1 16 _ _ rfl; have := kKR_49.1 19 _ _ rfl; omega)) (fun v77 e78 => ?_)
                  have := kKR_49.a (k := 13) rfl ((v74 + i4_49) : Int32).toNatClampNeg
                  have := mz_hi v70
                  have := mz_hi v77
                  refine mv_icmp_neZ (tgt := 87) (a := v70.toInt) (b := v77.toInt) d_TrustDeskModel_isThere_80 (by decide) rfl rfl (fun b79 => ?_) (fun b79 => ?_)
                  · refine mv_iconst (v := 0) d_TrustDeskModel_isThere_87 (by decide) ?_
                    refine mv_istore_n (lv' := [(3, .int 0), (4, .int i4_49), (2, .int i2_2), (1, .int i1_2), (0, .ref o0)]) d_TrustDeskModel_isThere_88 rfl (by decide) rfl ?_
                    refine mv_iinc (v := (i4_49 + 1)) (lv' := [(4, .int (i4_49 + 1)), (3, .int 0), (2, .int i2_2), (1, .int i1_2), (0, .ref o0)]) d_TrustDeskModel_isThere_89 rfl rfl (by decide) rfl ?_
                    refine mv_goto (tgt := 39) d_TrustDeskModel_isThere_92 (by decide) ?_
                    have b80 : (i4_49 + 1).toInt = i4_49.toInt + 1 := mz_addn 1 1 (by decide) (by have := mz_lo i4_49; omega) (by have := mz_hi i4_49; omega)
                    exact (ih49 (i4_49 + 1) 0 T_49 M_49 n_49 I_49 h_q0_49 (by have := kKR_49.1 15 _ _ rfl; have := kKR_49.1 16 _ _ rfl; have := kKR_49.1 19 _ _ rfl; first | omega | decide | exact fun h9 => absurd (by decide) h9) (by have := kKR_49.1 15 _ _ rfl; have := kKR_49.1 16 _ _ rfl; have := kKR_49.1 19 _ _ rfl; first | omega | decide | exact fun h9 => absurd (by decide) h9) (by have := kKR_49.1 15 _ _ rfl; have := kKR_49.1 16 _ _ rfl; have := kKR_49.1 19 _ _ rfl; first | omega | decide | exact fun h9 => absurd (by decide) h9) (by have := kKR_49.1 15 _ _ rfl; have := kKR_49.1 16 _ _ rfl; have := kKR_49.1 19 _ _ rfl; first | omega | decide | exact fun h9 => absurd (by decide) h9) (by have := kKR_49.1 15 _ _ rfl; have := kKR_49.1 16 _ _ rfl; have := kKR_49.1 19 _ _ rfl; first | omega | decide | exact fun h9 => absurd (by decide) h9) (by have := kKR_49.1 15 _ _ rfl; have := kKR_49.1 16 _ _ rfl; have := kKR_49.1 19 _ _ rfl; first | omega | decide | exact fun h9 => absurd (by decide) h9) (by have := kKR_49.1 15 _ _ rfl; have := kKR_49.1 16 _ _ rfl; have := kKR_49.1 19 _ _ rfl; first | omega | decide | exact fun h9 => absurd (by decide) h9) (by have := kKR_49.1 15 _ _ rfl; have := kKR_49.1 16 _ _ rfl; have := kKR_49.1 19 _ _ rfl; first | omega | decide | exact fun h9 => absurd (by decide) h9) (by have := kKR_49.1 15 _ _ rfl; have := kKR_49.1 16 _ _ rfl; have := kKR_49.1 19 _ _ rfl; first | omega | decide | exact fun h9 => absurd (by decide) h9) kKR_49 kKN_49 (by have := kKR_49.1 15 _ _ rfl; have := kKR_49.1 16 _ _ rfl; have := kKR_49.1 19 _ _ rfl; omega))
                  · refine mv_iconst (v := 1) d_TrustDeskModel_isThere_83 (by decide) ?_
                    refine mv_goto (tgt := 88) d_TrustDeskModel_isThere_84 (by decide) ?_
                    refine mv_istore_n (lv' := [(3, .int 1), (4, .int i4_49), (2, .int i2_2), (1, .int i1_2), (0, .ref o0)]) d_TrustDeskModel_isThere_88 rfl (by decide) rfl ?_
                    refine mv_iinc (v := (i4_49 + 1)) (lv' := [(4, .int (i4_49 + 1)), (3, .int 1), (2, .int i2_2), (1, .int i1_2), (0, .ref o0)]) d_TrustDeskModel_isThere_89 rfl rfl (by decide) rfl ?_
                    refine mv_goto (tgt := 39) d_TrustDeskModel_isThere_92 (by decide) ?_
                    have b81 : (i4_49 + 1).toInt = i4_49.toInt + 1 := mz_addn 1 1 (by decide) (by have := mz_lo i4_49; omega) (by have := mz_hi i4_49; omega)
                    exact (ih49 (i4_49 + 1) 1 T_49 M_49 n_49 I_49 h_q0_49 (by have := kKR_49.1 15 _ _ rfl; have := kKR_49.1 16 _ _ rfl; have := kKR_49.1 19 _ _ rfl; first | omega | decide | exact fun h9 => absurd (by decide) h9) (by have := kKR_49.1 15 _ _ rfl; have := kKR_49.1 16 _ _ rfl; have := kKR_49.1 19 _ _ rfl; first | omega | decide | exact fun h9 => absurd (by decide) h9) (by have := kKR_49.1 15 _ _ rfl; have := kKR_49.1 16 _ _ rfl; have := kKR_49.1 19 _ _ rfl; first | omega | decide | exact fun h9 => absurd (by decide) h9) (by have := kKR_49.1 15 _ _ rfl; have := kKR_49.1 16 _ _ rfl; have := kKR_49.1 19 _ _ rfl; first | omega | decide | exact fun h9 => absurd (by decide) h9) (by have := kKR_49.1 15 _ _ rfl; have := kKR_49.1 16 _ _ rfl; have := kKR_49.1 19 _ _ rfl; first | omega | decide | exact fun h9 => absurd (by decide) h9) (by have := kKR_49.1 15 _ _ rfl; have := kKR_49.1 16 _ _ rfl; have := kKR_49.1 19 _ _ rfl; first | omega | decide | exact fun h9 => absurd (by decide) h9) (by have := kKR_49.1 15 _ _ rfl; have := kKR_49.1 16 _ _ rfl; have := kKR_49.1 19 _ _ rfl; first | omega | decide | exact fun h9 => absurd (by decide) h9) (by have := kKR_49.1 15 _ _ rfl; have := kKR_49.1 16 _ _ rfl; have := kKR_49.1 19 _ _ rfl; first | omega | decide | exact fun h9 => absurd (by decide) h9) (by have := kKR_49.1 15 _ _ rfl; have := kKR_49.1 16 _ _ rfl; have := kKR_49.1 19 _ _ rfl; first | omega | decide | exact fun h9 => absurd (by decide) h9) kKR_49 kKN_49 (by have := kKR_49.1 15 _ _ rfl; have := kKR_49.1 16 _ _ rfl; have := kKR_49.1 19 _ _ rfl; omega))
          exact mv_less (Nat.zero_le _) (Nat.zero_le _) (L39_49 4294967296 0 1 T_2 M_2 n_2 I_2 h_q0_2 (by have := kKR_2.1 15 _ _ rfl; have := kKR_2.1 16 _ _ rfl; have := kKR_2.1 19 _ _ rfl; first | omega | decide | exact fun h9 => absurd (by decide) h9) (by have := kKR_2.1 15 _ _ rfl; have := kKR_2.1 16 _ _ rfl; have := kKR_2.1 19 _ _ rfl; first | omega | decide | exact fun h9 => absurd (by decide) h9) (by have := kKR_2.1 15 _ _ rfl; have := kKR_2.1 16 _ _ rfl; have := kKR_2.1 19 _ _ rfl; first | omega | decide | exact fun h9 => absurd (by decide) h9) (by have := kKR_2.1 15 _ _ rfl; have := kKR_2.1 16 _ _ rfl; have := kKR_2.1 19 _ _ rfl; first | omega | decide | exact fun h9 => absurd (by decide) h9) (by have := kKR_2.1 15 _ _ rfl; have := kKR_2.1 16 _ _ rfl; have := kKR_2.1 19 _ _ rfl; first | omega | decide | exact fun h9 => absurd (by decide) h9) (by have := kKR_2.1 15 _ _ rfl; have := kKR_2.1 16 _ _ rfl; have := kKR_2.1 19 _ _ rfl; first | omega | decide | exact fun h9 => absurd (by decide) h9) (by have := kKR_2.1 15 _ _ rfl; have := kKR_2.1 16 _ _ rfl; have := kKR_2.1 19 _ _ rfl; first | omega | decide | exact fun h9 => absurd (by decide) h9) (by have := kKR_2.1 15 _ _ rfl; have := kKR_2.1 16 _ _ rfl; have := kKR_2.1 19 _ _ rfl; first | omega | decide | exact fun h9 => absurd (by decide) h9) (by have := kKR_2.1 15 _ _ rfl; have := kKR_2.1 16 _ _ rfl; have := kKR_2.1 19 _ _ rfl; first | omega | decide | exact fun h9 => absurd (by decide) h9) kKR_2 kKN_2 (by show (2147483647 - (0 : Int) : Int) < _; decide))
  exact mv_less (Nat.zero_le _) (Nat.zero_le _) (L4_2 4294967296 0 0 T0 M0 n0 I0 h_o0 (by have := yR.1 15 _ _ rfl; have := yR.1 16 _ _ rfl; have := yR.1 19 _ _ rfl; first | omega | decide | exact fun h9 => absurd (by decide) h9) (by have := yR.1 15 _ _ rfl; have := yR.1 16 _ _ rfl; have := yR.1 19 _ _ rfl; first | omega | decide | exact fun h9 => absurd (by decide) h9) (by have := yR.1 15 _ _ rfl; have := yR.1 16 _ _ rfl; have := yR.1 19 _ _ rfl; first | omega | decide | exact fun h9 => absurd (by decide) h9) (by have := yR.1 15 _ _ rfl; have := yR.1 16 _ _ rfl; have := yR.1 19 _ _ rfl; first | omega | decide | exact fun h9 => absurd (by decide) h9) (by have := yR.1 15 _ _ rfl; have := yR.1 16 _ _ rfl; have := yR.1 19 _ _ rfl; first | omega | decide | exact fun h9 => absurd (by decide) h9) (by have := yR.1 15 _ _ rfl; have := yR.1 16 _ _ rfl; have := yR.1 19 _ _ rfl; first | omega | decide | exact fun h9 => absurd (by decide) h9) yR K1 (by show (2147483647 - (0 : Int) : Int) < _; decide))
abbrev kY_TrustDeskModel_starts : mj_Y := (⟨"TrustDeskModel", "starts", "(Z)V"⟩, prog_14_method_41_code, 2, (Option.none : Option Jvm.ClassFile.FieldType))
theorem d_TrustDeskModel_starts_0 : decode kY_TrustDeskModel_starts.2.1 0 = .ok (.aload_n 0, 1) := by decide +kernel
theorem d_TrustDeskModel_starts_1 : decode kY_TrustDeskModel_starts.2.1 1 = .ok (.iload_n 1, 1) := by decide +kernel
theorem d_TrustDeskModel_starts_2 : decode kY_TrustDeskModel_starts.2.1 2 = .ok (.putfield 267, 3) := by decide +kernel
theorem p_TrustDeskModel_267_13 : mj_fp "TrustDeskModel" 267 13 23 (kt_TrustDeskModel 23) false := ⟨kR_TrustDeskModel, kF_TrustDeskModel, 72, "TrustDeskModel", kt_TrustDeskModel, rfl, kg_13, by decide, (mj_in1 (List.mem_of_getElem? (i := 1409) (by decide +kernel)) rfl), Or.inl rfl, kto_TrustDeskModel, kn_TrustDeskModel, rfl, rfl, fun h => by cases h⟩
theorem d_TrustDeskModel_starts_5 : decode kY_TrustDeskModel_starts.2.1 5 = .ok (.aload_n 0, 1) := by decide +kernel
theorem d_TrustDeskModel_starts_6 : decode kY_TrustDeskModel_starts.2.1 6 = .ok (.iconst 0, 1) := by decide +kernel
theorem d_TrustDeskModel_starts_7 : decode kY_TrustDeskModel_starts.2.1 7 = .ok (.putfield 224, 3) := by decide +kernel
theorem d_TrustDeskModel_starts_10 : decode kY_TrustDeskModel_starts.2.1 10 = .ok (.aload_n 0, 1) := by decide +kernel
theorem d_TrustDeskModel_starts_11 : decode kY_TrustDeskModel_starts.2.1 11 = .ok (.iconst 0, 1) := by decide +kernel
theorem d_TrustDeskModel_starts_12 : decode kY_TrustDeskModel_starts.2.1 12 = .ok (.putfield 192, 3) := by decide +kernel
theorem d_TrustDeskModel_starts_15 : decode kY_TrustDeskModel_starts.2.1 15 = .ok (.aload_n 0, 1) := by decide +kernel
theorem d_TrustDeskModel_starts_16 : decode kY_TrustDeskModel_starts.2.1 16 = .ok (.iconst 0, 1) := by decide +kernel
theorem d_TrustDeskModel_starts_17 : decode kY_TrustDeskModel_starts.2.1 17 = .ok (.putfield 276, 3) := by decide +kernel
theorem d_TrustDeskModel_starts_20 : decode kY_TrustDeskModel_starts.2.1 20 = .ok (.aload_n 0, 1) := by decide +kernel
theorem d_TrustDeskModel_starts_21 : decode kY_TrustDeskModel_starts.2.1 21 = .ok (.iconst 0, 1) := by decide +kernel
theorem d_TrustDeskModel_starts_22 : decode kY_TrustDeskModel_starts.2.1 22 = .ok (.putfield 321, 3) := by decide +kernel
theorem p_TrustDeskModel_321_13 : mj_fp "TrustDeskModel" 321 13 24 (kt_TrustDeskModel 24) false := ⟨kR_TrustDeskModel, kF_TrustDeskModel, 72, "TrustDeskModel", kt_TrustDeskModel, rfl, kg_13, by decide, (mj_in1 (List.mem_of_getElem? (i := 1410) (by decide +kernel)) rfl), Or.inl rfl, kto_TrustDeskModel, kn_TrustDeskModel, rfl, rfl, fun h => by cases h⟩
theorem d_TrustDeskModel_starts_25 : decode kY_TrustDeskModel_starts.2.1 25 = .ok (.aload_n 0, 1) := by decide +kernel
theorem d_TrustDeskModel_starts_26 : decode kY_TrustDeskModel_starts.2.1 26 = .ok (.getfield 20, 3) := by decide +kernel
theorem d_TrustDeskModel_starts_29 : decode kY_TrustDeskModel_starts.2.1 29 = .ok (.bipush 44, 2) := by decide +kernel
theorem d_TrustDeskModel_starts_31 : decode kY_TrustDeskModel_starts.2.1 31 = .ok (.iconst 0, 1) := by decide +kernel
theorem d_TrustDeskModel_starts_32 : decode kY_TrustDeskModel_starts.2.1 32 = .ok (.iastore, 1) := by decide +kernel
theorem d_TrustDeskModel_starts_33 : decode kY_TrustDeskModel_starts.2.1 33 = .ok (.aload_n 0, 1) := by decide +kernel
theorem d_TrustDeskModel_starts_34 : decode kY_TrustDeskModel_starts.2.1 34 = .ok (.getfield 23, 3) := by decide +kernel
theorem d_TrustDeskModel_starts_37 : decode kY_TrustDeskModel_starts.2.1 37 = .ok (.bipush 44, 2) := by decide +kernel
theorem d_TrustDeskModel_starts_39 : decode kY_TrustDeskModel_starts.2.1 39 = .ok (.iconst 0, 1) := by decide +kernel
theorem d_TrustDeskModel_starts_40 : decode kY_TrustDeskModel_starts.2.1 40 = .ok (.iastore, 1) := by decide +kernel
theorem d_TrustDeskModel_starts_41 : decode kY_TrustDeskModel_starts.2.1 41 = .ok (.aload_n 0, 1) := by decide +kernel
theorem d_TrustDeskModel_starts_42 : decode kY_TrustDeskModel_starts.2.1 42 = .ok (.invokevirtual 237, 3) := by decide +kernel
theorem d_TrustDeskModel_starts_45 : decode kY_TrustDeskModel_starts.2.1 45 = .ok (.return_, 1) := by decide +kernel
def w_TrustDeskModel_starts_x : List Nat := [1315, 1316, 1317, 1318, 1319, 1322, 1323, 1324, 20005, 20006]
set_option maxHeartbeats 100000000 in theorem tc_TrustDeskModel_starts_x {g : mj_G} {l : Launch} {d : Nat} {T0 : tm_H} {M0 : mj_M} {n0 x9 : Nat} {o0 : Nat} {x1 : Int32} (h_o0 : T0 o0 = some (0, 13, 0)) (hn0 : 0 ≤ x1.toInt ∧ x1.toInt ≤ 1) (yR : rI M0 o0) (I0 : tm_I tm_FT (tm_in w_TrustDeskModel_starts_x) x9 T0 M0 n0 T0 M0 n0) : mj_Met g l kY_TrustDeskModel_starts (d + 2) [.ref o0, .int x1] M0 n0 0 0 (tm_Q tm_FT (tm_in w_TrustDeskModel_starts_x) x9 T0 M0 n0 (fun r _ M => r = none ∧ rI M o0 ∧ (rT M o0) ∧ (rv M o0 19 = 0) ∧ (rv M o0 22 = 0) ∧ (rv M o0 24 = 0) ∧ (ra M o0 5 44 = 0) ∧ (ra M o0 6 44 = 0))) := by
  refine mj_enter (by decide) (Nat.le_of_ble_eq_true rfl) ?_
  refine mv_aload_n d_TrustDeskModel_starts_0 rfl rfl ?_
  refine mv_iload_n d_TrustDeskModel_starts_1 rfl rfl ?_
  refine tr_putR (k := 23) I0 yR h_o0 rfl ⟨_, rfl⟩ (fun _ h => by cases h) rfl (fun lo hi h => by cases h) (Or.inl (by decide)) d_TrustDeskModel_starts_2 p_TrustDeskModel_267_13 (mz_nb (by omega) (by omega)) (mz_fz (by omega) (by omega)) (fun M1 I2 q3 K4 R5 A6 V7 => ?_)
  have z8 := (V7 15 (by decide))
  have z9 := (V7 16 (by decide))
  have z10 := (V7 17 (by decide))
  have z11 := (V7 19 (by decide))
  have z12 := (V7 22 (by decide))
  have z13 := (V7 24 (by decide))
  have z14 := (A6 5 (by decide) 44)
  have z15 := (A6 6 (by decide) 44)
  refine mv_aload_n d_TrustDeskModel_starts_5 rfl rfl ?_
  refine mv_iconst (v := 0) d_TrustDeskModel_starts_6 (by decide) ?_
  refine tr_putR (k := 19) I2 R5 h_o0 rfl ⟨_, rfl⟩ (fun _ h => by cases h) rfl (fun lo hi h => by cases h; exact (by decide)) (Or.inl (by decide)) d_TrustDeskModel_starts_7 p_TrustDeskModel_224_13 rfl rfl (fun M16 I17 q18 K19 R20 A21 V22 => ?_)
  have z23 := (V22 15 (by decide)).trans z8
  have z24 := (V22 16 (by decide)).trans z9
  have z25 := (V22 17 (by decide)).trans z10
  have z26 := (V22 22 (by decide)).trans z12
  have z27 := (V22 24 (by decide)).trans z13
  have z28 := (A21 5 (by decide) 44).trans z14
  have z29 := (A21 6 (by decide) 44).trans z15
  have z30 : rv M16 o0 19 = 0 := tm_rv q18
  clear z8 z9 z10 z12 z13 z14 z15
  refine mv_aload_n d_TrustDeskModel_starts_10 rfl rfl ?_
  refine mv_iconst (v := 0) d_TrustDeskModel_starts_11 (by decide) ?_
  refine tr_putR (k := 15) I17 R20 h_o0 rfl ⟨_, rfl⟩ (fun _ h => by cases h) rfl (fun lo hi h => by cases h; exact (by decide)) (Or.inl (by decide)) d_TrustDeskModel_starts_12 p_TrustDeskModel_192_13 rfl rfl (fun M31 I32 q33 K34 R35 A36 V37 => ?_)
  have z38 := (V37 16 (by decide)).trans z24
  have z39 := (V37 17 (by decide)).trans z25
  have z40 := (V37 19 (by decide)).trans z30
  have z41 := (V37 22 (by decide)).trans z26
  have z42 := (V37 24 (by decide)).trans z27
  have z43 := (A36 5 (by decide) 44).trans z28
  have z44 := (A36 6 (by decide) 44).trans z29
  have z45 : rv M31 o0 15 = 0 := tm_rv q33
  clear z24 z25 z30 z26 z27 z28 z29
  refine mv_aload_n d_TrustDeskModel_starts_15 rfl rfl ?_
  refine mv_iconst (v := 0) d_TrustDeskModel_starts_16 (by decide) ?_
  refine tr_putR (k := 22) I32 R35 h_o0 rfl ⟨_, rfl⟩ (fun _ h => by cases h) rfl (fun lo hi h => by cases h) (Or.inl (by decide)) d_TrustDeskModel_starts_17 p_TrustDeskModel_276_13 rfl rfl (fun M46 I47 q48 K49 R50 A51 V52 => ?_)
  have z53 := (V52 15 (by decide)).trans z45
  have z54 := (V52 16 (by decide)).trans z38
  have z55 := (V52 17 (by decide)).trans z39
  have z56 := (V52 19 (by decide)).trans z40
  have z57 := (V52 24 (by decide)).trans z42
  have z58 := (A51 5 (by decide) 44).trans z43
  have z59 := (A51 6 (by decide) 44).trans z44
  have z60 : rv M46 o0 22 = 0 := tm_rv q48
  clear z45 z38 z39 z40 z42 z43 z44
  refine mv_aload_n d_TrustDeskModel_starts_20 rfl rfl ?_
  refine mv_iconst (v := 0) d_TrustDeskModel_starts_21 (by decide) ?_
  refine tr_putR (k := 24) I47 R50 h_o0 rfl ⟨_, rfl⟩ (fun _ h => by cases h) rfl (fun lo hi h => by cases h; exact (by decide)) (Or.inl (by decide)) d_TrustDeskModel_starts_22 p_TrustDeskModel_321_13 rfl rfl (fun M61 I62 q63 K64 R65 A66 V67 => ?_)
  have z68 := (V67 15 (by decide)).trans z53
  have z69 := (V67 16 (by decide)).trans z54
  have z70 := (V67 17 (by decide)).trans z55
  have z71 := (V67 19 (by decide)).trans z56
  have z72 := (V67 22 (by decide)).trans z60
  have z73 := (A66 5 (by decide) 44).trans z58
  have z74 := (A66 6 (by decide) 44).trans z59
  have z75 : rv M61 o0 24 = 0 := tm_rv q63
  clear z53 z54 z55 z56 z60 z58 z59
  refine mv_aload_n d_TrustDeskModel_starts_25 rfl rfl ?_
  obtain ⟨a77, q76, t_a77⟩ := tm_atR I62 h_o0 (k := 5) rfl
  refine tr_getK q76 d_TrustDeskModel_starts_26 f_TrustDeskModel_20_13 ?_
  refine mv_bipush (v := 44) d_TrustDeskModel_starts_29 (by decide) ?_
  refine mv_iconst (v := 0) d_TrustDeskModel_starts_31 (by decide) ?_
  refine tr_iastR (k := 5) I62 R65 (I62.up h_o0) q76 t_a77 (by decide) (by decide) (fun lo hi h => by cases h; exact (by decide)) (Or.inl (by decide)) d_TrustDeskModel_starts_32 (by unfold vp_in; decide) (fun M78 I79 K80 R81 E82 A83 V84 => ?_)
  have z85 := (V84 15).trans z68
  have z86 := (V84 16).trans z69
  have z87 := (V84 17).trans z70
  have z88 := (V84 19).trans z71
  have z89 := (V84 22).trans z72
  have z90 := (V84 24).trans z75
  have z91 := (A83 6 (by decide) rfl 44).trans z74
  have z92 : ra M78 o0 5 44 = 0 := (E82 44).trans (if_pos (by decide))
  clear z68 z69 z70 z71 z72 z75 z74
  refine mv_aload_n d_TrustDeskModel_starts_33 rfl rfl ?_
  obtain ⟨a94, q93, t_a94⟩ := tm_atR I79 h_o0 (k := 6) rfl
  refine tr_getK q93 d_TrustDeskModel_starts_34 f_TrustDeskModel_23_13 ?_
  refine mv_bipush (v := 44) d_TrustDeskModel_starts_37 (by decide) ?_
  refine mv_iconst (v := 0) d_TrustDeskModel_starts_39 (by decide) ?_
  refine tr_iastR (k := 6) I79 R81 (I79.up h_o0) q93 t_a94 (by decide) (by decide) (fun lo hi h => by cases h; exact (by decide)) (Or.inl (by decide)) d_TrustDeskModel_starts_40 (by unfold vp_in; decide) (fun M95 I96 K97 R98 E99 A100 V101 => ?_)
  have z102 := (V101 15).trans z85
  have z103 := (V101 16).trans z86
  have z104 := (V101 17).trans z87
  have z105 := (V101 19).trans z88
  have z106 := (V101 22).trans z89
  have z107 := (V101 24).trans z90
  have z108 := (A100 5 (by decide) rfl 44).trans z92
  have z109 : ra M95 o0 6 44 = 0 := (E99 44).trans (if_pos (by decide))
  clear z85 z86 z87 z88 z89 z90 z92
  refine mv_aload_n d_TrustDeskModel_starts_41 rfl rfl ?_
  obtain ⟨_, b116, -⟩ := I96.1 _ _ h_o0
  refine mv_callV (kc' := 0) (ks' := 0) (As := []) (st9 := [.ref o0]) d_TrustDeskModel_starts_42 lV_TrustDeskModel_237 b116 rfl (tc_TrustDeskModel_next_x (d := d) (x9 := x9) (o0 := o0) h_o0 R98 I96.start) rfl (Nat.le_of_ble_eq_true rfl) (Nat.le_of_ble_eq_true rfl) (Nat.le_of_ble_eq_true rfl) (hst := rfl) (fun b110r M111 n112 b110 => ?_)
  obtain ⟨T113, J114, rfl, R117, f118, f119⟩ := b110
  have I115 := I96.call J114 (tm_sub (by decide)) (Or.inl rfl)
  have t120 := J114.up h_o0
  have z121 := (rv_c I96 J114 (I96.up h_o0) (k := 19) rfl).trans z105
  have z122 := (rv_c I96 J114 (I96.up h_o0) (k := 22) rfl).trans z106
  have z123 := (rv_c I96 J114 (I96.up h_o0) (k := 24) rfl).trans z107
  have z124 := (ra_call I96 J114 (I96.up h_o0) (k := 5) rfl rfl rfl 44).trans z108
  have z125 := (ra_call I96 J114 (I96.up h_o0) (k := 6) rfl rfl rfl 44).trans z109
  clear z105 z106 z107 z108 z109
  have q126 := J114.keep h_o0 (by decide) (K97 _ 13 23 _ (K80 _ 13 23 _ (K64 _ 13 23 _ rfl (K49 _ 13 23 _ rfl (K34 _ 13 23 _ rfl (K19 _ 13 23 _ rfl q3))))))
  have q127 := J114.keep h_o0 (by decide) (K97 _ 13 19 _ (K80 _ 13 19 _ (K64 _ 13 19 _ rfl (K49 _ 13 19 _ rfl (K34 _ 13 19 _ rfl q18)))))
  have q128 := J114.keep h_o0 (by decide) (K97 _ 13 22 _ (K80 _ 13 22 _ (K64 _ 13 22 _ rfl q48)))
  have q129 := J114.keep h_o0 (by decide) (K97 _ 13 24 _ (K80 _ 13 24 _ q63))
  have q130 := J114.keep h_o0 (by decide) (K97 _ 13 5 _ (K80 _ 13 5 _ q76))
  have t131 := J114.up t_a77
  have q132 := J114.keep h_o0 (by decide) (K97 _ 13 6 _ q93)
  have t133 := J114.up t_a94
  exact mv_vret d_TrustDeskModel_starts_45 rfl ⟨_, I115, rfl, R117, f118, (by have := R117.1 15 _ _ rfl; have := R117.1 16 _ _ rfl; have := R117.1 19 _ _ rfl; omega), (by have := R117.1 15 _ _ rfl; have := R117.1 16 _ _ rfl; have := R117.1 19 _ _ rfl; omega), (by have := R117.1 15 _ _ rfl; have := R117.1 16 _ _ rfl; have := R117.1 19 _ _ rfl; omega), (by have := R117.1 15 _ _ rfl; have := R117.1 16 _ _ rfl; have := R117.1 19 _ _ rfl; omega), (by have := R117.1 15 _ _ rfl; have := R117.1 16 _ _ rfl; have := R117.1 19 _ _ rfl; omega)⟩
