def w_TrustDeskModel_fund_a : List Nat := [1300, 1314, 1315, 1316, 1317, 1318, 1319, 1320, 1321, 1322, 1323, 1324, 1332, 20004, 20005, 20006, 20007, 20008, 20009, 20010, 20011, 20012, 20025, 20026, 20033, 20034, 20035, 20036, 20037, 20038, 20039, 20041, 20043, 20044, 20045, 20046, 20047, 20048]
set_option maxHeartbeats 100000000 in theorem tc_TrustDeskModel_fund_a {g : mj_G} {l : Launch} {d : Nat} {T0 : tm_H} {M0 : mj_M} {n0 x9 : Nat} {o0 : Nat} {x1 : Int32} {x2 : Int32} (h_o0 : T0 o0 = some (0, 13, 0)) (yR : rI M0 o0) (yC : rC M0 o0 44) (yP : rP M0 o0) (yB : rB M0 o0 12) {pb : Nat → Int} {pn : Nat} (yXT : pX M0 o0 pb pn) {fr : Nat → Int} {va : Nat → Nat → Int} (yA : aA M0 o0 (rv M0 o0 27) fr va) (I0 : tm_I tm_FT (tm_in w_TrustDeskModel_fund_a) x9 T0 M0 n0 T0 M0 n0) : mj_Met g l kY_TrustDeskModel_fund (d + 27) [.ref o0, .int x1, .int x2] M0 n0 0 0 (tm_Q tm_FT (tm_in w_TrustDeskModel_fund_a) x9 T0 M0 n0 (fun r _ M => ∃ v : Int32, r = some (.int v) ∧ rI M o0 ∧ (rC M o0 44) ∧ (rP M o0) ∧ (rB M o0 12) ∧ (rv M0 o0 32 ≤ rv M o0 32) ∧ ((v.toInt = -1 ∧ ¬ (0 ≤ x1.toInt ∧ x1.toInt ≤ 999 ∧ 0 ≤ x2.toInt ∧ x2.toInt ≤ 99999 ∧ rv M0 o0 32 ≠ 12) ∧ rv M o0 14 = rv M0 o0 14 ∧ rv M o0 21 = rv M0 o0 21 ∧ rv M o0 32 = rv M0 o0 32) ∨ ((0 ≤ x1.toInt ∧ x1.toInt ≤ 999 ∧ 0 ≤ x2.toInt ∧ x2.toInt ≤ 99999 ∧ rv M0 o0 32 ≠ 12) ∧ rv M o0 14 = 0 ∧ (((p_dee pb pn).2.2.1 = 0 ∧ v.toInt = rv M0 o0 32 ∧ rv M o0 21 = -1 ∧ rv M o0 32 = rv M0 o0 32 + 1) ∨ ((p_dee pb pn).2.2.1 ≠ 0 ∧ v.toInt = -1 - (p_dee pb pn).2.2.1 ∧ rv M o0 21 = ((p_dee pb pn).2.2.2.1 : Int) ∧ rv M o0 32 = rv M0 o0 32)))) ∧ (aA M o0 (rv M0 o0 27) fr va))) := by
  refine mj_enter (by decide) (Nat.le_of_ble_eq_true rfl) ?_
  have hA20 : rv M0 o0 27 ≤ 20 := (yR.1 27 _ _ rfl).2
  have K1 : rC M0 o0 44 := yC
  have K2 : rP M0 o0 := yP
  have K3 : rB M0 o0 12 := yB
  have K4 : aA M0 o0 (rv M0 o0 27) fr va := yA
  refine mv_aload_n d_TrustDeskModel_fund_0 rfl rfl ?_
  refine mv_iconst (v := 0) d_TrustDeskModel_fund_1 (by decide) ?_
  refine tr_putR (k := 0) I0 yR h_o0 rfl ⟨_, rfl⟩ (fun _ h => by cases h) rfl (fun lo hi h => by cases h) (Or.inl (by decide)) d_TrustDeskModel_fund_2 p_TrustDeskModel_1_13 rfl rfl (fun M5 I6 q7 K8 R9 A10 V11 => ?_)
  have z12 := (V11 15 (by decide))
  have z13 := (V11 16 (by decide))
  have z14 := (V11 17 (by decide))
  have z15 := (V11 19 (by decide))
  have z16 := (V11 22 (by decide))
  have z17 := (V11 24 (by decide))
  have z18 := (V11 27 (by decide))
  have z19 := (V11 32 (by decide))
  have z20 := (V11 49 (by decide))
  have z21 := (V11 14 (by decide))
  have z22 := (V11 21 (by decide))
  have z23 := (A10 5 (by decide) 44)
  have z24 := (A10 6 (by decide) 44)
  have K25 : rC M5 o0 44 := K1.same (sA_f A10 (by decide)) (sF_f V11 (by decide))
  have K26 : rP M5 o0 := K2.same (sA_f A10 (by decide)) (sF_f V11 (by decide))
  have K27 : rB M5 o0 12 := K3.same (sA_f A10 (by decide)) (sF_f V11 (by decide))
  have K28 : aA M5 o0 (rv M0 o0 27) fr va := K4.same (sA_f A10 (by decide))
  have K29 : pX M5 o0 pb pn := yXT.same (sA_f A10 (by decide)) (sF_f V11 (by decide))
  refine mv_iload_n d_TrustDeskModel_fund_5 rfl rfl ?_
  refine mv_i2l (v := x1.toInt64) d_TrustDeskModel_fund_6 rfl ?_
  refine mv_lconst (v := 0) d_TrustDeskModel_fund_7 (by decide) ?_
  refine mv_ldc2 d_TrustDeskModel_fund_8 k_TrustDeskModel_421 ?_
  refine mv_callS (kc1 := 0) (ks1 := 0) (kc' := 0) (ks' := 0) (As := [.long x1.toInt64, .long 0, .long 999]) (st9 := [.long 999, .long 0, .long x1.toInt64]) d_TrustDeskModel_fund_11 lS_TrustDeskModel_169 (mj_enter (by decide) (Nat.le_of_ble_eq_true rfl) ?_) rfl (Nat.le_of_ble_eq_true rfl) (Nat.le_of_ble_eq_true rfl) (Nat.le_of_ble_eq_true rfl) (hst := rfl) (fun _ _ _ h => h)
  refine mv_lload_n d_TrustDeskModel_within_0 rfl rfl ?_
  refine mv_lload_n d_TrustDeskModel_within_1 rfl rfl ?_
  refine mv_lltZ (tgt := 17) (a := x1.toInt) (b := 0) d_TrustDeskModel_within_2 d_TrustDeskModel_within_3 (by decide) (mz_wide _) (by decide) (fun b30 => ?_) (fun b30 => ?_)
  · refine mv_iconst (v := 0) d_TrustDeskModel_within_17 (by decide) ?_
    refine mv_iret d_TrustDeskModel_within_18 rfl (by decide) ?_
    refine mv_if_eq_t (tgt := 38) d_TrustDeskModel_fund_14 (by decide) (by decide) ?_
    refine mv_iconst (v := (-1)) d_TrustDeskModel_fund_38 (by decide) ?_
    exact mv_iret d_TrustDeskModel_fund_39 rfl (by first | rfl | decide) ⟨_, I6, _, rfl, R9, K25, K26, K27, (by have := R9.1 15 _ _ rfl; have := R9.1 16 _ _ rfl; have := R9.1 19 _ _ rfl; omega), (Or.inl ⟨by decide, by omega, z21, z22, z19⟩), K28⟩
  · refine mv_lload_n d_TrustDeskModel_within_6 rfl rfl ?_
    refine mv_lload d_TrustDeskModel_within_7 rfl ?_
    refine mv_lgtZ (tgt := 17) (a := x1.toInt) (b := 999) d_TrustDeskModel_within_9 d_TrustDeskModel_within_10 (by decide) (mz_wide _) (by decide) (fun b31 => ?_) (fun b31 => ?_)
    · refine mv_iconst (v := 0) d_TrustDeskModel_within_17 (by decide) ?_
      refine mv_iret d_TrustDeskModel_within_18 rfl (by decide) ?_
      refine mv_if_eq_t (tgt := 38) d_TrustDeskModel_fund_14 (by decide) (by decide) ?_
      refine mv_iconst (v := (-1)) d_TrustDeskModel_fund_38 (by decide) ?_
      exact mv_iret d_TrustDeskModel_fund_39 rfl (by first | rfl | decide) ⟨_, I6, _, rfl, R9, K25, K26, K27, (by have := R9.1 15 _ _ rfl; have := R9.1 16 _ _ rfl; have := R9.1 19 _ _ rfl; omega), (Or.inl ⟨by decide, by omega, z21, z22, z19⟩), K28⟩
    · refine mv_iconst (v := 1) d_TrustDeskModel_within_13 (by decide) ?_
      refine mv_goto (tgt := 18) d_TrustDeskModel_within_14 (by decide) ?_
      refine mv_iret d_TrustDeskModel_within_18 rfl (by decide) ?_
      refine mv_if_eq_f (tgt := 38) d_TrustDeskModel_fund_14 (by decide) (by decide) ?_
      refine mv_iload_n d_TrustDeskModel_fund_17 rfl rfl ?_
      refine mv_i2l (v := x2.toInt64) d_TrustDeskModel_fund_18 rfl ?_
      refine mv_lconst (v := 0) d_TrustDeskModel_fund_19 (by decide) ?_
      refine mv_ldc2 d_TrustDeskModel_fund_20 k_TrustDeskModel_423 ?_
      refine mv_callS (kc1 := 0) (ks1 := 0) (kc' := 0) (ks' := 0) (As := [.long x2.toInt64, .long 0, .long 99999]) (st9 := [.long 99999, .long 0, .long x2.toInt64]) d_TrustDeskModel_fund_23 lS_TrustDeskModel_169 (mj_enter (by decide) (Nat.le_of_ble_eq_true rfl) ?_) rfl (Nat.le_of_ble_eq_true rfl) (Nat.le_of_ble_eq_true rfl) (Nat.le_of_ble_eq_true rfl) (hst := rfl) (fun _ _ _ h => h)
      refine mv_lload_n d_TrustDeskModel_within_0 rfl rfl ?_
      refine mv_lload_n d_TrustDeskModel_within_1 rfl rfl ?_
      refine mv_lltZ (tgt := 17) (a := x2.toInt) (b := 0) d_TrustDeskModel_within_2 d_TrustDeskModel_within_3 (by decide) (mz_wide _) (by decide) (fun b32 => ?_) (fun b32 => ?_)
      · refine mv_iconst (v := 0) d_TrustDeskModel_within_17 (by decide) ?_
        refine mv_iret d_TrustDeskModel_within_18 rfl (by decide) ?_
        refine mv_if_eq_t (tgt := 38) d_TrustDeskModel_fund_26 (by decide) (by decide) ?_
        refine mv_iconst (v := (-1)) d_TrustDeskModel_fund_38 (by decide) ?_
        exact mv_iret d_TrustDeskModel_fund_39 rfl (by first | rfl | decide) ⟨_, I6, _, rfl, R9, K25, K26, K27, (by have := R9.1 15 _ _ rfl; have := R9.1 16 _ _ rfl; have := R9.1 19 _ _ rfl; omega), (Or.inl ⟨by decide, by omega, z21, z22, z19⟩), K28⟩
      · refine mv_lload_n d_TrustDeskModel_within_6 rfl rfl ?_
        refine mv_lload d_TrustDeskModel_within_7 rfl ?_
        refine mv_lgtZ (tgt := 17) (a := x2.toInt) (b := 99999) d_TrustDeskModel_within_9 d_TrustDeskModel_within_10 (by decide) (mz_wide _) (by decide) (fun b33 => ?_) (fun b33 => ?_)
        · refine mv_iconst (v := 0) d_TrustDeskModel_within_17 (by decide) ?_
          refine mv_iret d_TrustDeskModel_within_18 rfl (by decide) ?_
          refine mv_if_eq_t (tgt := 38) d_TrustDeskModel_fund_26 (by decide) (by decide) ?_
          refine mv_iconst (v := (-1)) d_TrustDeskModel_fund_38 (by decide) ?_
          exact mv_iret d_TrustDeskModel_fund_39 rfl (by first | rfl | decide) ⟨_, I6, _, rfl, R9, K25, K26, K27, (by have := R9.1 15 _ _ rfl; have := R9.1 16 _ _ rfl; have := R9.1 19 _ _ rfl; omega), (Or.inl ⟨by decide, by omega, z21, z22, z19⟩), K28⟩
        · refine mv_iconst (v := 1) d_TrustDeskModel_within_13 (by decide) ?_
          refine mv_goto (tgt := 18) d_TrustDeskModel_within_14 (by decide) ?_
          refine mv_iret d_TrustDeskModel_within_18 rfl (by decide) ?_
          refine mv_if_eq_f (tgt := 38) d_TrustDeskModel_fund_26 (by decide) (by decide) ?_
          refine mv_aload_n d_TrustDeskModel_fund_29 rfl rfl ?_
          obtain ⟨v35, q34⟩ := tm_atI I6 h_o0 (k := 32) rfl
          refine tr_getK q34 d_TrustDeskModel_fund_30 f_TrustDeskModel_415_13 ?_
          have := R9.f (k := 32) q34 rfl
          have := (tm_rv q34).symm.trans z19
          have := tm_rv q34
          refine mv_bipush (v := 12) d_TrustDeskModel_fund_33 (by decide) ?_
          have := mz_hi v35
          refine mv_icmp_neZ (tgt := 40) (a := v35.toInt) (b := 12) d_TrustDeskModel_fund_35 (by decide) rfl (by decide) (fun b36 => ?_) (fun b36 => ?_)
          · refine mv_aload_n d_TrustDeskModel_fund_40 rfl rfl ?_
            refine mv_iconst (v := 0) d_TrustDeskModel_fund_41 (by decide) ?_
            obtain ⟨_, b43, -⟩ := I6.1 _ _ h_o0
            have : (0 : Int32).toInt = 0 := by decide
            refine mv_callV (kc' := 0) (ks' := 0) (As := [.int 0]) (st9 := [.int 0, .ref o0]) d_TrustDeskModel_fund_42 lV_TrustDeskModel_381 b43 rfl (tc_TrustDeskModel_starts_a (d := (d + 24)) (x9 := x9) (o0 := o0) (x1 := 0) h_o0 (by decide) R9 K29 I6.start) rfl (Nat.le_of_ble_eq_true rfl) (Nat.le_of_ble_eq_true rfl) (Nat.le_of_ble_eq_true rfl) (hst := rfl) (fun b37r M38 n39 b37 => ?_)
            obtain ⟨T40, J41, rfl, R44, f45, f46, f47, f48, f49, f50, f51, f52⟩ := b37
            have I42 := I6.call J41 (tm_sub (by decide)) (Or.inl rfl)
            have t53 := J41.up h_o0
            have z54 := (rv_c I6 J41 (I6.up h_o0) (k := 27) rfl).trans z18
            have z55 := (rv_c I6 J41 (I6.up h_o0) (k := 32) rfl).trans z19
            have z56 := (rv_c I6 J41 (I6.up h_o0) (k := 49) rfl).trans z20
            have z57 := (rv_c I6 J41 (I6.up h_o0) (k := 14) rfl).trans z21
            have z58 := (rv_c I6 J41 (I6.up h_o0) (k := 21) rfl).trans z22
            have K59 : rC M38 o0 44 := K25.same (sA_c I6 J41 (I6.up h_o0) (by decide +kernel)) (sF_c I6 J41 (I6.up h_o0) (by decide +kernel))
            have K60 : rP M38 o0 := K26.same (sA_c I6 J41 (I6.up h_o0) (by decide +kernel)) (sF_c I6 J41 (I6.up h_o0) (by decide +kernel))
            have K61 : rB M38 o0 12 := K27.same (sA_c I6 J41 (I6.up h_o0) (by decide +kernel)) (sF_c I6 J41 (I6.up h_o0) (by decide +kernel))
            have K62 : aA M38 o0 (rv M0 o0 27) fr va := K28.st R9 hA20 f52 (sA_c I6 J41 (I6.up h_o0) (by decide +kernel))
            have K63 : pX M38 o0 pb pn := K29.same (sA_c I6 J41 (I6.up h_o0) (by decide +kernel)) (sF_c I6 J41 (I6.up h_o0) (by decide +kernel))
            have K64 : rW M38 o0 := rW.start f45 R44 f49 f50 f48
            rw [show (if (0 : Int32).toInt = 0 then (10 : Int) else 13) = 10 from by decide] at f51
            obtain ⟨s65, e66⟩ : ∃ s9 : p_S, (0, 0, 0) = s9 := ⟨_, rfl⟩
            rw [e66] at f51
            have := f51.w
            have : s65.1 = 0 := by rw [← e66]
            have : s65.2.2 = 0 := by rw [← e66]
            have hG : Im (0 ≤ x1.toInt ∧ x1.toInt ≤ 999 ∧ 0 ≤ x2.toInt ∧ x2.toInt ≤ 99999 ∧ rv M0 o0 32 ≠ 12) := Im.i (by omega)
            clear z18 z19 z20 z21 z22
            have q67 := J41.keep h_o0 (by decide) q7
            have q68 := J41.keep h_o0 (by decide) q34
            have C66_69 : ∀ (T_69 : tm_H) (M_69 : mj_M) (n_69 : Nat), tm_I tm_FT (tm_in w_TrustDeskModel_fund_a) x9 T0 M0 n0 T_69 M_69 n_69 → T_69 o0 = some (0, 13, 0) → (rv M_69 o0 19 = 0 → rv M_69 o0 22 = 0) → rv M_69 o0 27 = rv M0 o0 27 → rv M_69 o0 32 = rv M0 o0 32 → rv M_69 o0 49 = rv M0 o0 49 → ra M_69 o0 6 44 ≤ 12 → (rI M_69 o0) → (rC M_69 o0 44) → (rP M_69 o0) → (rB M_69 o0 12) → (aA M_69 o0 (rv M0 o0 27) fr va) → (rW M_69 o0) → (∃ (c1 : Nat) (N1 : List (Nat × Nat)) (s1 : p_S), pO M_69 o0 pb pn 10 s1 ∧ (s1.1 = 0 → ra M_69 o0 6 44 = (c1 : Int)) ∧ (s1.1 = 0 → pN M_69 o0 pn N1) ∧ (c1, N1, s1) = p_dee pb pn) → mj_V g l kY_TrustDeskModel_fund (d + 27) 66 [(0, .ref o0), (1, .int x1), (2, .int x2)] [] M_69 n_69 0 0 (tm_Q tm_FT (tm_in w_TrustDeskModel_fund_a) x9 T0 M0 n0 (fun r _ M => ∃ v : Int32, r = some (.int v) ∧ rI M o0 ∧ (rC M o0 44) ∧ (rP M o0) ∧ (rB M o0 12) ∧ (rv M0 o0 32 ≤ rv M o0 32) ∧ ((v.toInt = -1 ∧ ¬ (0 ≤ x1.toInt ∧ x1.toInt ≤ 999 ∧ 0 ≤ x2.toInt ∧ x2.toInt ≤ 99999 ∧ rv M0 o0 32 ≠ 12) ∧ rv M o0 14 = rv M0 o0 14 ∧ rv M o0 21 = rv M0 o0 21 ∧ rv M o0 32 = rv M0 o0 32) ∨ ((0 ≤ x1.toInt ∧ x1.toInt ≤ 999 ∧ 0 ≤ x2.toInt ∧ x2.toInt ≤ 99999 ∧ rv M0 o0 32 ≠ 12) ∧ rv M o0 14 = 0 ∧ (((p_dee pb pn).2.2.1 = 0 ∧ v.toInt = rv M0 o0 32 ∧ rv M o0 21 = -1 ∧ rv M o0 32 = rv M0 o0 32 + 1) ∨ ((p_dee pb pn).2.2.1 ≠ 0 ∧ v.toInt = -1 - (p_dee pb pn).2.2.1 ∧ rv M o0 21 = ((p_dee pb pn).2.2.2.1 : Int) ∧ rv M o0 32 = rv M0 o0 32)))) ∧ (aA M o0 (rv M0 o0 27) fr va))) := by
                intro T_69 M_69 n_69 I_69 h_q0_69 iv0_69 iv1_69 iv2_69 iv3_69 iv4_69 kKR_69 kKC_69 kKP_69 kKB_69 kKAA_69 kKW_69 kKT9_69
                obtain ⟨c70, N75, s71, S72, h73, h76, e74⟩ := kKT9_69
                replace h76 := Im.i h76
                replace h73 := Im.i h73
                have := S72.w
                refine mv_bipush (v := 20) d_TrustDeskModel_fund_66 (by decide) ?_
                refine mv_aload_n d_TrustDeskModel_fund_68 rfl rfl ?_
                obtain ⟨v78, q77⟩ := tm_atI I_69 h_q0_69 (k := 32) rfl
                refine tr_getK q77 d_TrustDeskModel_fund_69 f_TrustDeskModel_415_13 ?_
                have := kKR_69.f (k := 32) q77 rfl
                have := tm_rv q77
                refine mv_iadd d_TrustDeskModel_fund_72 ?_
                refine mv_istore_n (lv' := [(3, .int (20 + v78)), (0, .ref o0), (1, .int x1), (2, .int x2)]) d_TrustDeskModel_fund_73 rfl (by decide) rfl ?_
                refine mv_aload_n d_TrustDeskModel_fund_74 rfl rfl ?_
                refine mv_iload_n d_TrustDeskModel_fund_75 rfl rfl ?_
                obtain ⟨_, b85, -⟩ := I_69.1 _ _ h_q0_69
                have b86 : (20 + v78 : Int32).toInt = (20 + v78.toInt) := mz_add2 (by decide) rfl (by have := kKR_69.1 15 _ _ rfl; have := kKR_69.1 16 _ _ rfl; have := kKR_69.1 19 _ _ rfl; omega) (by have := kKR_69.1 15 _ _ rfl; have := kKR_69.1 16 _ _ rfl; have := kKR_69.1 19 _ _ rfl; omega)
                refine mv_callV (kc' := 0) (ks' := 0) (As := [.int (20 + v78)]) (st9 := [.int (20 + v78), .ref o0]) d_TrustDeskModel_fund_76 lV_TrustDeskModel_388 b85 rfl (tc_TrustDeskModel_stops_a (d := (d + 25)) (x9 := x9) (o0 := o0) (x1 := (20 + v78)) h_q0_69 kKR_69 (by have := kKR_69.1 15 _ _ rfl; have := kKR_69.1 16 _ _ rfl; have := kKR_69.1 19 _ _ rfl; omega) S72 I_69.start) rfl (Nat.le_of_ble_eq_true rfl) (Nat.le_of_ble_eq_true rfl) (Nat.le_of_ble_eq_true rfl) (hst := rfl) (fun b79r M80 n81 b79 => ?_)
                obtain ⟨T82, J83, v87, rfl, R88, f89, f90, f91, f92, f93, f94⟩ := b79
                have I84 := I_69.call J83 (tm_sub (by decide)) (Or.inl rfl)
                have t95 := J83.up h_q0_69
                replace f89 := Im.i f89
                replace f90 := Im.i f90
                have z96 := (rv_c I_69 J83 (I_69.up h_o0) (k := 15) rfl)
                have z97 := (rv_c I_69 J83 (I_69.up h_o0) (k := 16) rfl)
                have z98 := (rv_c I_69 J83 (I_69.up h_o0) (k := 17) rfl)
                have z99 := (rv_c I_69 J83 (I_69.up h_o0) (k := 19) rfl)
                have z100 := (rv_c I_69 J83 (I_69.up h_o0) (k := 22) rfl)
                have z101 := (rv_c I_69 J83 (I_69.up h_o0) (k := 24) rfl)
                have z102 := (rv_c I_69 J83 (I_69.up h_o0) (k := 27) rfl)
                have z103 := (rv_c I_69 J83 (I_69.up h_o0) (k := 32) rfl)
                have z104 := (rv_c I_69 J83 (I_69.up h_o0) (k := 49) rfl)
                have e105 := e74.symm
                have z1 : (p_dee pb pn).2.2.1 = s71.1 := by rw [e105]
                have z3 : (p_dee pb pn).2.2.2.1 = s71.2.1 := by rw [e105]
                have K106 : rP M80 o0 := kKP_69.same (sA_c I_69 J83 (I_69.up h_o0) (by decide +kernel)) (sF_c I_69 J83 (I_69.up h_o0) (by decide +kernel))
                have K107 : rB M80 o0 12 := kKB_69.same (sA_c I_69 J83 (I_69.up h_o0) (by decide +kernel)) (sF_c I_69 J83 (I_69.up h_o0) (by decide +kernel))
                have K108 : aA M80 o0 (rv M0 o0 27) fr va := kKAA_69.stop (t := (20 + v78).toNatClampNeg) (z := rv M_69 o0 19) kKR_69 (by have := mz_nat9 (i := (20 + v78)) (by have := kKR_69.1 15 _ _ rfl; have := kKR_69.1 16 _ _ rfl; have := kKR_69.1 19 _ _ rfl; omega); have := kKR_69.1 15 _ _ rfl; have := kKR_69.1 16 _ _ rfl; have := kKR_69.1 19 _ _ rfl; omega) (fun h9 => ((Im.o f89) h9).2) (fun h9 => ⟨((Im.o f90) h9).2.2.1, ((Im.o f90) h9).2.2.2.1⟩) f94 (sA_c I_69 J83 (I_69.up h_o0) (by decide +kernel))
                have K109 : (v87.toInt < 0 → rC M80 o0 44) ∧ (0 ≤ v87.toInt → rC M80 o0 ((20 + v78).toNatClampNeg)) := rC.st kKC_69 kKR_69 kKW_69 (by have := mz_nat9 (i := (20 + v78)) (by have := kKR_69.1 15 _ _ rfl; have := kKR_69.1 16 _ _ rfl; have := kKR_69.1 19 _ _ rfl; omega); have := kKR_69.1 15 _ _ rfl; have := kKR_69.1 16 _ _ rfl; have := kKR_69.1 19 _ _ rfl; omega) (by unfold rU; have := mz_nat9 (i := (20 + v78)) (by have := kKR_69.1 15 _ _ rfl; have := kKR_69.1 16 _ _ rfl; have := kKR_69.1 19 _ _ rfl; omega); have := kKR_69.1 15 _ _ rfl; have := kKR_69.1 16 _ _ rfl; have := kKR_69.1 19 _ _ rfl; omega) f89 f90 (sA_c I_69 J83 (I_69.up h_o0) (by decide)) (sF_c I_69 J83 (I_69.up h_o0) (by decide))
                have h110 := kc_of f89 f90 kKR_69 kKW_69
                have := (kKR_69.2 6 _ _ rfl 44)
                have K111 : sA [7] M80 M80 o0 := sA.rf
                have : 0 ≤ v87.toInt → ra M80 o0 6 (20 + v78).toNatClampNeg = ra M_69 o0 6 44 := fun h9 => by
                  by_cases w9 : rv M_69 o0 19 = 0
                  · exact (f90.o w9).2.2.2.2.2.2.2
                  · have := (f89.o w9).1; omega
                have g112 := Im.i (tl_st (tl_ge (kKR_69.1 19 _ _ rfl) S72.w) f92 f93)
                clear f92 f93
                have q113 := J83.keep h_q0_69 (by decide) q77
                refine mv_istore (lv' := [(4, .int v87), (3, .int (20 + v78)), (0, .ref o0), (1, .int x1), (2, .int x2)]) d_TrustDeskModel_fund_79 (by decide) rfl ?_
                refine mv_iload d_TrustDeskModel_fund_81 rfl ?_
                have := mz_hi v87
                refine mv_if_geZ (tgt := 89) (a := v87.toInt) d_TrustDeskModel_fund_83 (by decide) rfl (fun b114 => ?_) (fun b114 => ?_)
                · have K115 : rC M80 o0 ((20 + v78).toNatClampNeg) := K109.2 (by omega)
                  obtain ⟨g116, g117⟩ := (Im.o g112).1 (by omega)
                  refine mv_aload_n d_TrustDeskModel_fund_89 rfl rfl ?_
                  refine tr_getK (k := 32) q113 d_TrustDeskModel_fund_90 f_TrustDeskModel_415_13 ?_
                  refine mv_istore (lv' := [(5, .int v78), (4, .int v87), (3, .int (20 + v78)), (0, .ref o0), (1, .int x1), (2, .int x2)]) d_TrustDeskModel_fund_93 (by decide) rfl ?_
                  refine mv_aload_n d_TrustDeskModel_fund_95 rfl rfl ?_
                  obtain ⟨a120, q119, t_a120⟩ := tm_atR I84 t95 (k := 33) rfl
                  refine tr_getK q119 d_TrustDeskModel_fund_96 f_TrustDeskModel_66_13 ?_
                  refine mv_iload d_TrustDeskModel_fund_99 rfl ?_
                  refine mv_iload_n d_TrustDeskModel_fund_101 rfl rfl ?_
                  refine tr_iastR (k := 33) I84 R88 (I84.up h_o0) q119 t_a120 (by decide) (by decide) (fun lo hi h => by cases h; have := R88.1 15 _ _ rfl; have := R88.1 16 _ _ rfl; have := R88.1 19 _ _ rfl; exact ⟨by show (0 : Int) ≤ x1.toInt; omega, by show x1.toInt ≤ (999 : Int); omega⟩) (Or.inl (by decide)) d_TrustDeskModel_fund_102 (vp_in_iff.mpr (by have := R88.1 15 _ _ rfl; have := R88.1 16 _ _ rfl; have := R88.1 19 _ _ rfl; omega)) (fun M121 I122 K123 R124 E125 A126 V127 => ?_)
                  have z128 := (V127 15).trans z96
                  have z129 := (V127 16).trans z97
                  have z130 := (V127 17).trans z98
                  have z131 := (V127 19).trans z99
                  have z132 := (V127 22).trans z100
                  have z133 := (V127 24).trans z101
                  have z134 := (V127 27).trans z102
                  have z135 := (V127 32).trans z103
                  have z136 := (V127 49).trans z104
                  have z137 := (V127 14)
                  have z138 := (V127 21)
                  have z139 := (A126 5 (by decide) rfl 44)
                  have z140 := (A126 6 (by decide) rfl 44)
                  have z141 := (A126 6 (by decide) rfl ((20 + v78).toNatClampNeg))
                  have K142 : rP M121 o0 := K106.same (sA_a A126 (by decide +kernel)) (sF_a V127)
                  have K143 : rB M121 o0 12 := K107.same (sA_a A126 (by decide +kernel)) (sF_a V127)
                  have K144 : aA M121 o0 (rv M0 o0 27) fr va := K108.same (sA_a A126 (by decide +kernel))
                  have K145 : sA [7] M80 M121 o0 := K111.trans (sA_a A126 (by decide +kernel))
                  have K146 : rC M121 o0 ((20 + v78).toNatClampNeg) := K115.same (sA_a A126 (by decide +kernel)) (sF_a V127)
                  clear z96 z97 z98 z100 z101 z102 z103 z104
                  refine mv_aload_n d_TrustDeskModel_fund_103 rfl rfl ?_
                  obtain ⟨a148, q147, t_a148⟩ := tm_atR I122 t95 (k := 34) rfl
                  refine tr_getK q147 d_TrustDeskModel_fund_104 f_TrustDeskModel_69_13 ?_
                  refine mv_iload d_TrustDeskModel_fund_107 rfl ?_
                  refine mv_iload_n d_TrustDeskModel_fund_109 rfl rfl ?_
                  refine tr_iastR (k := 34) I122 R124 (I122.up h_o0) q147 t_a148 (by decide) (by decide) (fun lo hi h => by cases h; have := R124.1 15 _ _ rfl; have := R124.1 16 _ _ rfl; have := R124.1 19 _ _ rfl; exact ⟨by show (0 : Int) ≤ x2.toInt; omega, by show x2.toInt ≤ (99999 : Int); omega⟩) (Or.inl (by decide)) d_TrustDeskModel_fund_110 (vp_in_iff.mpr (by have := R124.1 15 _ _ rfl; have := R124.1 16 _ _ rfl; have := R124.1 19 _ _ rfl; omega)) (fun M149 I150 K151 R152 E153 A154 V155 => ?_)
                  have z156 := (V155 15).trans z128
                  have z157 := (V155 16).trans z129
                  have z158 := (V155 17).trans z130
                  have z159 := (V155 19).trans z131
                  have z160 := (V155 22).trans z132
                  have z161 := (V155 24).trans z133
                  have z162 := (V155 27).trans z134
                  have z163 := (V155 32).trans z135
                  have z164 := (V155 49).trans z136
                  have z165 := (V155 14).trans z137
                  have z166 := (V155 21).trans z138
                  have z167 := (A154 5 (by decide) rfl 44).trans z139
                  have z168 := (A154 6 (by decide) rfl 44).trans z140
                  have z169 := (A154 6 (by decide) rfl ((20 + v78).toNatClampNeg)).trans z141
                  have K170 : rP M149 o0 := K142.same (sA_a A154 (by decide +kernel)) (sF_a V155)
                  have K171 : rB M149 o0 12 := K143.same (sA_a A154 (by decide +kernel)) (sF_a V155)
                  have K172 : aA M149 o0 (rv M0 o0 27) fr va := K144.same (sA_a A154 (by decide +kernel))
                  have K173 : sA [7] M80 M149 o0 := K145.trans (sA_a A154 (by decide +kernel))
                  have K174 : rC M149 o0 ((20 + v78).toNatClampNeg) := K146.same (sA_a A154 (by decide +kernel)) (sF_a V155)
                  clear z128 z129 z130 z132 z133 z134 z135 z136 z137 z138 z139 z140 z141
                  refine mv_aload_n d_TrustDeskModel_fund_111 rfl rfl ?_
                  obtain ⟨a176, q175, t_a176⟩ := tm_atR I150 t95 (k := 35) rfl
                  refine tr_getK q175 d_TrustDeskModel_fund_112 f_TrustDeskModel_72_13 ?_
                  refine mv_iload d_TrustDeskModel_fund_115 rfl ?_
                  refine mv_lconst (v := 0) d_TrustDeskModel_fund_117 (by decide) ?_
                  refine tr_lastR (k := 35) I150 R152 (I150.up h_o0) q175 t_a176 (by decide) (by decide) (fun lo hi h => by cases h; have e9 : (0 : Int64).toInt = 0 := (by decide); exact ⟨by show (0 : Int) ≤ (0 : Int64).toInt; omega, by show (0 : Int64).toInt ≤ (1000000000000000 : Int); omega⟩) (Or.inl (by decide)) d_TrustDeskModel_fund_118 (vp_in_iff.mpr (by have := R152.1 15 _ _ rfl; have := R152.1 16 _ _ rfl; have := R152.1 19 _ _ rfl; omega)) (fun M177 I178 K179 R180 E181 A182 V183 => ?_)
                  have z184 := (V183 15).trans z156
                  have z185 := (V183 16).trans z157
                  have z186 := (V183 17).trans z158
                  have z187 := (V183 19).trans z159
                  have z188 := (V183 22).trans z160
                  have z189 := (V183 24).trans z161
                  have z190 := (V183 27).trans z162
                  have z191 := (V183 32).trans z163
                  have z192 := (V183 49).trans z164
                  have z193 := (V183 14).trans z165
                  have z194 := (V183 21).trans z166
                  have z195 := (A182 5 (by decide) rfl 44).trans z167
                  have z196 := (A182 6 (by decide) rfl 44).trans z168
                  have z197 := (A182 6 (by decide) rfl ((20 + v78).toNatClampNeg)).trans z169
                  have K198 : rP M177 o0 := K170.same (sA_a A182 (by decide +kernel)) (sF_a V183)
                  have K199 : rB M177 o0 12 := K171.same (sA_a A182 (by decide +kernel)) (sF_a V183)
                  have K200 : aA M177 o0 (rv M0 o0 27) fr va := K172.same (sA_a A182 (by decide +kernel))
                  have K201 : sA [7] M80 M177 o0 := K173.trans (sA_a A182 (by decide +kernel))
                  have K202 : rC M177 o0 ((20 + v78).toNatClampNeg) := K174.same (sA_a A182 (by decide +kernel)) (sF_a V183)
                  clear z156 z157 z158 z160 z161 z162 z163 z164 z165 z166 z167 z168 z169
                  refine mv_aload_n d_TrustDeskModel_fund_119 rfl rfl ?_
                  obtain ⟨a204, q203, t_a204⟩ := tm_atR I178 t95 (k := 36) rfl
                  refine tr_getK q203 d_TrustDeskModel_fund_120 f_TrustDeskModel_76_13 ?_
                  refine mv_iload d_TrustDeskModel_fund_123 rfl ?_
                  refine mv_iconst (v := 0) d_TrustDeskModel_fund_125 (by decide) ?_
                  refine tr_iastR (k := 36) I178 R180 (I178.up h_o0) q203 t_a204 (by decide) (by decide) (fun lo hi h => by cases h) (Or.inl (by decide)) d_TrustDeskModel_fund_126 (vp_in_iff.mpr (by have := R180.1 15 _ _ rfl; have := R180.1 16 _ _ rfl; have := R180.1 19 _ _ rfl; omega)) (fun M205 I206 K207 R208 E209 A210 V211 => ?_)
                  have z212 := (V211 15).trans z184
                  have z213 := (V211 16).trans z185
                  have z214 := (V211 17).trans z186
                  have z215 := (V211 19).trans z187
                  have z216 := (V211 22).trans z188
                  have z217 := (V211 24).trans z189
                  have z218 := (V211 27).trans z190
                  have z219 := (V211 32).trans z191
                  have z220 := (V211 49).trans z192
                  have z221 := (V211 14).trans z193
                  have z222 := (V211 21).trans z194
                  have z223 := (A210 5 (by decide) rfl 44).trans z195
                  have z224 := (A210 6 (by decide) rfl 44).trans z196
                  have z225 := (A210 6 (by decide) rfl ((20 + v78).toNatClampNeg)).trans z197
                  have K226 : rP M205 o0 := K198.same (sA_a A210 (by decide +kernel)) (sF_a V211)
                  have K227 : rB M205 o0 12 := K199.same (sA_a A210 (by decide +kernel)) (sF_a V211)
                  have K228 : aA M205 o0 (rv M0 o0 27) fr va := K200.same (sA_a A210 (by decide +kernel))
                  have K229 : sA [7] M80 M205 o0 := K201.trans (sA_a A210 (by decide +kernel))
                  have K230 : rC M205 o0 ((20 + v78).toNatClampNeg) := K202.same (sA_a A210 (by decide +kernel)) (sF_a V211)
                  clear z184 z185 z186 z188 z189 z190 z191 z192 z193 z194 z195 z196 z197
                  refine mv_aload_n d_TrustDeskModel_fund_127 rfl rfl ?_
                  obtain ⟨a232, q231, t_a232⟩ := tm_atR I206 t95 (k := 37) rfl
                  refine tr_getK q231 d_TrustDeskModel_fund_128 f_TrustDeskModel_79_13 ?_
                  refine mv_iload d_TrustDeskModel_fund_131 rfl ?_
                  refine mv_iconst (v := (-1)) d_TrustDeskModel_fund_133 (by decide) ?_
                  refine tr_iastR (k := 37) I206 R208 (I206.up h_o0) q231 t_a232 (by decide) (by decide) (fun lo hi h => by cases h; have e9 : ((-1) : Int32).toInt = (-1) := (by decide); exact ⟨by show ((-1) : Int) ≤ ((-1) : Int32).toInt; omega, by show ((-1) : Int32).toInt ≤ (11 : Int); omega⟩) (Or.inl (by decide)) d_TrustDeskModel_fund_134 (vp_in_iff.mpr (by have := R208.1 15 _ _ rfl; have := R208.1 16 _ _ rfl; have := R208.1 19 _ _ rfl; omega)) (fun M233 I234 K235 R236 E237 A238 V239 => ?_)
                  have z240 := (V239 15).trans z212
                  have z241 := (V239 16).trans z213
                  have z242 := (V239 17).trans z214
                  have z243 := (V239 19).trans z215
                  have z244 := (V239 22).trans z216
                  have z245 := (V239 24).trans z217
                  have z246 := (V239 27).trans z218
                  have z247 := (V239 32).trans z219
                  have z248 := (V239 49).trans z220
                  have z249 := (V239 14).trans z221
                  have z250 := (V239 21).trans z222
                  have z251 := (A238 5 (by decide) rfl 44).trans z223
                  have z252 := (A238 6 (by decide) rfl 44).trans z224
                  have z253 := (A238 6 (by decide) rfl ((20 + v78).toNatClampNeg)).trans z225
                  have K254 : rP M233 o0 := K226.out A238 E237 V239 (by have := mz_nat9 (i := v78) (by have := R208.1 15 _ _ rfl; have := R208.1 16 _ _ rfl; have := R208.1 19 _ _ rfl; omega); have := R208.1 15 _ _ rfl; have := R208.1 16 _ _ rfl; have := R208.1 19 _ _ rfl; omega)
                  have K255 : rB M233 o0 12 := K227.out A238 E237 V239 (by have := mz_nat9 (i := v78) (by have := R208.1 15 _ _ rfl; have := R208.1 16 _ _ rfl; have := R208.1 19 _ _ rfl; omega); have := R208.1 15 _ _ rfl; have := R208.1 16 _ _ rfl; have := R208.1 19 _ _ rfl; omega)
                  have K256 : aA M233 o0 (rv M0 o0 27) fr va := K228.same (sA_a A238 (by decide +kernel))
                  have K257 : sA [7] M80 M233 o0 := K229.trans (sA_a A238 (by decide +kernel))
                  have K258 : rC M233 o0 ((20 + v78).toNatClampNeg) := K230.same (sA_a A238 (by decide +kernel)) (sF_a V239)
                  have := (K227.2 v78.toNatClampNeg (by have := mz_nat9 (i := v78) (by have := R208.1 15 _ _ rfl; have := R208.1 16 _ _ rfl; have := R208.1 19 _ _ rfl; omega); have := R208.1 15 _ _ rfl; have := R208.1 16 _ _ rfl; have := R208.1 19 _ _ rfl; omega) (by have := mz_nat9 (i := v78) (by have := R208.1 15 _ _ rfl; have := R208.1 16 _ _ rfl; have := R208.1 19 _ _ rfl; omega); have := R208.1 15 _ _ rfl; have := R208.1 16 _ _ rfl; have := R208.1 19 _ _ rfl; omega)).1 (by have := mz_nat9 (i := v78) (by have := R208.1 15 _ _ rfl; have := R208.1 16 _ _ rfl; have := R208.1 19 _ _ rfl; omega); have := R208.1 15 _ _ rfl; have := R208.1 16 _ _ rfl; have := R208.1 19 _ _ rfl; omega)
                  have := A238 43 (by decide) rfl v78.toNatClampNeg
                  have : ra M233 o0 37 v78.toNatClampNeg = -1 := (E237 _).trans (if_pos rfl)
                  clear z212 z213 z214 z216 z217 z218 z219 z220 z221 z222 z223 z224 z225
                  refine mv_aload_n d_TrustDeskModel_fund_135 rfl rfl ?_
                  obtain ⟨a260, q259, t_a260⟩ := tm_atR I234 t95 (k := 38) rfl
                  refine tr_getK q259 d_TrustDeskModel_fund_136 f_TrustDeskModel_82_13 ?_
                  refine mv_iload d_TrustDeskModel_fund_139 rfl ?_
                  refine mv_bipush (v := 7) d_TrustDeskModel_fund_141 (by decide) ?_
                  refine tr_iastR (k := 38) I234 R236 (I234.up h_o0) q259 t_a260 (by decide) (by decide) (fun lo hi h => by cases h) (Or.inl (by decide)) d_TrustDeskModel_fund_143 (vp_in_iff.mpr (by have := R236.1 15 _ _ rfl; have := R236.1 16 _ _ rfl; have := R236.1 19 _ _ rfl; omega)) (fun M261 I262 K263 R264 E265 A266 V267 => ?_)
                  have z268 := (V267 15).trans z240
                  have z269 := (V267 16).trans z241
                  have z270 := (V267 17).trans z242
                  have z271 := (V267 19).trans z243
                  have z272 := (V267 22).trans z244
                  have z273 := (V267 24).trans z245
                  have z274 := (V267 27).trans z246
                  have z275 := (V267 32).trans z247
                  have z276 := (V267 49).trans z248
                  have z277 := (V267 14).trans z249
                  have z278 := (V267 21).trans z250
                  have z279 := (A266 5 (by decide) rfl 44).trans z251
                  have z280 := (A266 6 (by decide) rfl 44).trans z252
                  have z281 := (A266 6 (by decide) rfl ((20 + v78).toNatClampNeg)).trans z253
                  have z282 := (A266 43 (by decide) rfl v78.toNatClampNeg)
                  have z283 := (A266 37 (by decide) rfl v78.toNatClampNeg)
                  have K284 : rP M261 o0 := K254.same (sA_a A266 (by decide +kernel)) (sF_a V267)
                  have K285 : rB M261 o0 12 := K255.same (sA_a A266 (by decide +kernel)) (sF_a V267)
                  have K286 : aA M261 o0 (rv M0 o0 27) fr va := K256.same (sA_a A266 (by decide +kernel))
                  have K287 : sA [7] M80 M261 o0 := K257.trans (sA_a A266 (by decide +kernel))
                  have K288 : rC M261 o0 ((20 + v78).toNatClampNeg) := K258.same (sA_a A266 (by decide +kernel)) (sF_a V267)
                  clear z240 z241 z242 z244 z245 z246 z247 z248 z249 z250 z251 z252 z253
                  refine mv_aload_n d_TrustDeskModel_fund_144 rfl rfl ?_
                  obtain ⟨a290, q289, t_a290⟩ := tm_atR I262 t95 (k := 39) rfl
                  refine tr_getK q289 d_TrustDeskModel_fund_145 f_TrustDeskModel_85_13 ?_
                  refine mv_iload d_TrustDeskModel_fund_148 rfl ?_
                  refine mv_iconst (v := 1) d_TrustDeskModel_fund_150 (by decide) ?_
                  refine tr_iastR (k := 39) I262 R264 (I262.up h_o0) q289 t_a290 (by decide) (by decide) (fun lo hi h => by cases h) (Or.inl (by decide)) d_TrustDeskModel_fund_151 (vp_in_iff.mpr (by have := R264.1 15 _ _ rfl; have := R264.1 16 _ _ rfl; have := R264.1 19 _ _ rfl; omega)) (fun M291 I292 K293 R294 E295 A296 V297 => ?_)
                  have z298 := (V297 15).trans z268
                  have z299 := (V297 16).trans z269
                  have z300 := (V297 17).trans z270
                  have z301 := (V297 19).trans z271
                  have z302 := (V297 22).trans z272
                  have z303 := (V297 24).trans z273
                  have z304 := (V297 27).trans z274
                  have z305 := (V297 32).trans z275
                  have z306 := (V297 49).trans z276
                  have z307 := (V297 14).trans z277
                  have z308 := (V297 21).trans z278
                  have z309 := (A296 5 (by decide) rfl 44).trans z279
                  have z310 := (A296 6 (by decide) rfl 44).trans z280
                  have z311 := (A296 6 (by decide) rfl ((20 + v78).toNatClampNeg)).trans z281
                  have z312 := (A296 43 (by decide) rfl v78.toNatClampNeg).trans z282
                  have z313 := (A296 37 (by decide) rfl v78.toNatClampNeg).trans z283
                  have K314 : rP M291 o0 := K284.same (sA_a A296 (by decide +kernel)) (sF_a V297)
                  have K315 : rB M291 o0 12 := K285.same (sA_a A296 (by decide +kernel)) (sF_a V297)
                  have K316 : aA M291 o0 (rv M0 o0 27) fr va := K286.same (sA_a A296 (by decide +kernel))
                  have K317 : sA [7] M80 M291 o0 := K287.trans (sA_a A296 (by decide +kernel))
                  have K318 : rC M291 o0 ((20 + v78).toNatClampNeg) := K288.same (sA_a A296 (by decide +kernel)) (sF_a V297)
                  clear z268 z269 z270 z272 z273 z274 z275 z276 z277 z278 z279 z280 z281 z282 z283
                  refine mv_iconst (v := 0) d_TrustDeskModel_fund_152 (by decide) ?_
                  refine mv_istore (lv' := [(6, .int 0), (5, .int v78), (4, .int v87), (3, .int (20 + v78)), (0, .ref o0), (1, .int x1), (2, .int x2)]) d_TrustDeskModel_fund_153 (by decide) rfl ?_
                  have L155_319 : ∀ (k : Nat) (i6_319 : Int32) (T_319 : tm_H) (M_319 : mj_M) (n_319 : Nat), tm_I tm_FT (tm_in w_TrustDeskModel_fund_a) x9 T0 M0 n0 T_319 M_319 n_319 → T_319 o0 = some (0, 13, 0) → 0 ≤ i6_319.toInt → rv M_319 o0 27 = rv M0 o0 27 → rv M_319 o0 32 = rv M0 o0 32 → rv M_319 o0 49 = rv M0 o0 49 → ra M_319 o0 6 (20 + v78).toNatClampNeg = ra M80 o0 6 (20 + v78).toNatClampNeg → ra M_319 o0 37 (v78).toNatClampNeg = -1 → ra M_319 o0 43 (v78).toNatClampNeg ≤ i6_319.toInt → ra M_319 o0 43 (v78).toNatClampNeg ≤ kc M80 o0 (20 * (20 + v78).toNatClampNeg) (i6_319.toInt).toNat → i6_319.toInt ≤ ra M80 o0 6 (20 + v78).toNatClampNeg → rv M_319 o0 14 = 0 → rv M_319 o0 21 = rv M80 o0 21 → (rI M_319 o0) → (rP M_319 o0) → (rB M_319 o0 v78.toNatClampNeg) → (aA M_319 o0 (rv M0 o0 27) fr va) → (sA [7] M80 M_319 o0) → (rC M_319 o0 ((20 + v78).toNatClampNeg)) → 2147483647 - i6_319.toInt < (k : Int) → mj_V g l kY_TrustDeskModel_fund (d + 27) 155 [(6, .int i6_319), (5, .int v78), (4, .int v87), (3, .int (20 + v78)), (0, .ref o0), (1, .int x1), (2, .int x2)] [] M_319 n_319 0 0 (tm_Q tm_FT (tm_in w_TrustDeskModel_fund_a) x9 T0 M0 n0 (fun r _ M => ∃ v : Int32, r = some (.int v) ∧ rI M o0 ∧ (rC M o0 44) ∧ (rP M o0) ∧ (rB M o0 12) ∧ (rv M0 o0 32 ≤ rv M o0 32) ∧ ((v.toInt = -1 ∧ ¬ (0 ≤ x1.toInt ∧ x1.toInt ≤ 999 ∧ 0 ≤ x2.toInt ∧ x2.toInt ≤ 99999 ∧ rv M0 o0 32 ≠ 12) ∧ rv M o0 14 = rv M0 o0 14 ∧ rv M o0 21 = rv M0 o0 21 ∧ rv M o0 32 = rv M0 o0 32) ∨ ((0 ≤ x1.toInt ∧ x1.toInt ≤ 999 ∧ 0 ≤ x2.toInt ∧ x2.toInt ≤ 99999 ∧ rv M0 o0 32 ≠ 12) ∧ rv M o0 14 = 0 ∧ (((p_dee pb pn).2.2.1 = 0 ∧ v.toInt = rv M0 o0 32 ∧ rv M o0 21 = -1 ∧ rv M o0 32 = rv M0 o0 32 + 1) ∨ ((p_dee pb pn).2.2.1 ≠ 0 ∧ v.toInt = -1 - (p_dee pb pn).2.2.1 ∧ rv M o0 21 = ((p_dee pb pn).2.2.2.1 : Int) ∧ rv M o0 32 = rv M0 o0 32)))) ∧ (aA M o0 (rv M0 o0 27) fr va))) := by
                    intro k319
                    induction k319 with
                    | zero =>
                      intro i6_319 T_319 M_319 n_319 I_319 h_q0_319 iv0_319 iv1_319 iv2_319 iv3_319 iv4_319 iv5_319 iv6_319 iv7_319 iv8_319 iv9_319 iv10_319 kKR_319 kKP_319 kKB_319 kKAA_319 kKY_319 kKC_319 hk319
                      have := mz_hi i6_319
                      have := kKR_319.1 15 _ _ rfl
                      have := kKR_319.1 16 _ _ rfl
                      have := kKR_319.1 19 _ _ rfl
                      omega
                    | succ k319 ih319 =>
                      intro i6_319 T_319 M_319 n_319 I_319 h_q0_319 iv0_319 iv1_319 iv2_319 iv3_319 iv4_319 iv5_319 iv6_319 iv7_319 iv8_319 iv9_319 iv10_319 kKR_319 kKP_319 kKB_319 kKAA_319 kKY_319 kKC_319 hk319
                      have := kc_two (M := M80) (o := o0) (b := 20 * (20 + v78).toNatClampNeg) (n := i6_319.toInt.toNat)
                      refine mv_iload d_TrustDeskModel_fund_155 rfl ?_
                      refine mv_aload_n d_TrustDeskModel_fund_157 rfl rfl ?_
                      obtain ⟨a321, q320, t_a321⟩ := tm_atR I_319 h_q0_319 (k := 6) rfl
                      refine tr_getK q320 d_TrustDeskModel_fund_158 f_TrustDeskModel_23_13 ?_
                      refine mv_iload_n d_TrustDeskModel_fund_161 rfl rfl ?_
                      have b322 : (20 + v78 : Int32).toInt = (20 + v78.toInt) := mz_add2 (by decide) rfl (by have := kKR_319.1 15 _ _ rfl; have := kKR_319.1 16 _ _ rfl; have := kKR_319.1 19 _ _ rfl; omega) (by have := kKR_319.1 15 _ _ rfl; have := kKR_319.1 16 _ _ rfl; have := kKR_319.1 19 _ _ rfl; omega)
                      refine tr_ialdR (o := o0) (k := 6) I_319 q320 t_a321 (by decide) d_TrustDeskModel_fund_162 (vp_in_iff.mpr (by have := kKR_319.1 15 _ _ rfl; have := kKR_319.1 16 _ _ rfl; have := kKR_319.1 19 _ _ rfl; omega)) (fun v323 e324 => ?_)
                      have := kKR_319.a (k := 6) rfl ((20 + v78) : Int32).toNatClampNeg
                      have : v323.toInt = ra M_319 o0 6 (20 + v78).toNatClampNeg := e324
                      have := mz_hi i6_319
                      have := mz_hi v323
                      refine mv_icmp_geZ (tgt := 274) (a := i6_319.toInt) (b := v323.toInt) d_TrustDeskModel_fund_163 (by decide) rfl rfl (fun b325 => ?_) (fun b325 => ?_)
                      · refine mv_aload_n d_TrustDeskModel_fund_274 rfl rfl ?_
                        obtain ⟨a327, q326, t_a327⟩ := tm_atR I_319 h_q0_319 (k := 41) rfl
                        refine tr_getK q326 d_TrustDeskModel_fund_275 f_TrustDeskModel_92_13 ?_
                        refine mv_bipush (v := 12) d_TrustDeskModel_fund_278 (by decide) ?_
                        refine mv_iload d_TrustDeskModel_fund_280 rfl ?_
                        refine mv_imul d_TrustDeskModel_fund_282 ?_
                        refine mv_iload d_TrustDeskModel_fund_283 rfl ?_
                        refine mv_iadd d_TrustDeskModel_fund_285 ?_
                        refine mv_ldcw d_TrustDeskModel_fund_286 k_TrustDeskModel_432 ?_
                        have b328 : (12 * v78 : Int32).toInt = (12 * v78.toInt) := mz_mul2 (by decide) rfl (by have := kKR_319.1 15 _ _ rfl; have := kKR_319.1 16 _ _ rfl; have := kKR_319.1 19 _ _ rfl; omega) (by have := kKR_319.1 15 _ _ rfl; have := kKR_319.1 16 _ _ rfl; have := kKR_319.1 19 _ _ rfl; omega)
                        have b329 : ((12 * v78) + v78 : Int32).toInt = ((12 * v78.toInt) + v78.toInt) := mz_add2 b328 rfl (by have := kKR_319.1 15 _ _ rfl; have := kKR_319.1 16 _ _ rfl; have := kKR_319.1 19 _ _ rfl; omega) (by have := kKR_319.1 15 _ _ rfl; have := kKR_319.1 16 _ _ rfl; have := kKR_319.1 19 _ _ rfl; omega)
                        refine tr_iastR (k := 41) I_319 kKR_319 (I_319.up h_o0) q326 t_a327 (by decide) (by decide) (fun lo hi h => by cases h; have e9 : (1000000 : Int32).toInt = 1000000 := (by decide); exact ⟨by show (0 : Int) ≤ (1000000 : Int32).toInt; omega, by show (1000000 : Int32).toInt ≤ (1000000 : Int); omega⟩) (Or.inl (by decide)) d_TrustDeskModel_fund_289 (vp_in_iff.mpr (by have := kKR_319.1 15 _ _ rfl; have := kKR_319.1 16 _ _ rfl; have := kKR_319.1 19 _ _ rfl; omega)) (fun M330 I331 K332 R333 E334 A335 V336 => ?_)
                        have z337 := (V336 15)
                        have z338 := (V336 16)
                        have z339 := (V336 17)
                        have z340 := (V336 19)
                        have z341 := (V336 22)
                        have z342 := (V336 24)
                        have z343 := (V336 27)
                        have z344 := (V336 32)
                        have z345 := (V336 49)
                        have z346 := (V336 14)
                        have z347 := (V336 21)
                        have z348 := (A335 5 (by decide) rfl 44)
                        have z349 := (A335 6 (by decide) rfl 44)
                        have z350 := (A335 6 (by decide) rfl ((20 + v78).toNatClampNeg))
                        have z351 := (A335 43 (by decide) rfl v78.toNatClampNeg)
                        have z352 := (A335 37 (by decide) rfl v78.toNatClampNeg)
                        have K353 : aA M330 o0 (rv M0 o0 27) fr va := kKAA_319.same (sA_a A335 (by decide +kernel))
                        have K354 : sA [7] M80 M330 o0 := kKY_319.trans (sA_a A335 (by decide +kernel))
                        have K355 : rC M330 o0 ((20 + v78).toNatClampNeg) := kKC_319.same (sA_a A335 (by decide +kernel)) (sF_a V336)
                        have : kc M80 o0 (20 * (20 + v78).toNatClampNeg) i6_319.toInt.toNat ≤ 6 := by rw [show i6_319.toInt.toNat = (ra M_69 o0 6 44).toNat from by omega]; exact h110 (by omega)
                        refine mv_aload_n d_TrustDeskModel_fund_290 rfl rfl ?_
                        refine mv_dup d_TrustDeskModel_fund_291 rfl ?_
                        obtain ⟨v357, q356⟩ := tm_atI I331 h_q0_319 (k := 32) rfl
                        refine tr_getK q356 d_TrustDeskModel_fund_292 f_TrustDeskModel_415_13 ?_
                        have := R333.f (k := 32) q356 rfl
                        have := (tm_rv q356).symm.trans z344
                        have := tm_rv q356
                        refine mv_iconst (v := 1) d_TrustDeskModel_fund_295 (by decide) ?_
                        refine mv_iadd d_TrustDeskModel_fund_296 ?_
                        have b358 : (v357 + 1 : Int32).toInt = (v357.toInt + 1) := mz_add2 rfl (by decide) (by have := R333.1 15 _ _ rfl; have := R333.1 16 _ _ rfl; have := R333.1 19 _ _ rfl; omega) (by have := R333.1 15 _ _ rfl; have := R333.1 16 _ _ rfl; have := R333.1 19 _ _ rfl; omega)
                        refine tr_putR (k := 32) I331 R333 h_q0_319 rfl ⟨_, rfl⟩ (fun _ h => by cases h) rfl (fun lo hi h => by cases h; have := R333.1 15 _ _ rfl; have := R333.1 16 _ _ rfl; have := R333.1 19 _ _ rfl; exact ⟨by show (0 : Int) ≤ (v357 + 1).toInt; omega, by show (v357 + 1).toInt ≤ (12 : Int); omega⟩) (Or.inl (by decide)) d_TrustDeskModel_fund_297 p_TrustDeskModel_415_13 rfl rfl (fun M359 I360 q361 K362 R363 A364 V365 => ?_)
                        have z366 := (V365 15 (by decide)).trans z337
                        have z367 := (V365 16 (by decide)).trans z338
                        have z368 := (V365 17 (by decide)).trans z339
                        have z369 := (V365 19 (by decide)).trans z340
                        have z370 := (V365 22 (by decide)).trans z341
                        have z371 := (V365 24 (by decide)).trans z342
                        have z372 := (V365 27 (by decide)).trans z343
                        have z373 := (V365 49 (by decide)).trans z345
                        have z374 := (V365 14 (by decide)).trans z346
                        have z375 := (V365 21 (by decide)).trans z347
                        have z376 := (A364 5 (by decide) 44).trans z348
                        have z377 := (A364 6 (by decide) 44).trans z349
                        have z378 := (A364 6 (by decide) ((20 + v78).toNatClampNeg)).trans z350
                        have z379 := (A364 43 (by decide) v78.toNatClampNeg).trans z351
                        have z380 := (A364 37 (by decide) v78.toNatClampNeg).trans z352
                        have z381 : rv M359 o0 32 = (v357 + 1).toInt := tm_rv q361
                        have K382 : aA M359 o0 (rv M0 o0 27) fr va := K353.same (sA_f A364 (by decide))
                        have K383 : sA [7] M80 M359 o0 := K354.trans (sA_f A364 (by decide))
                        have K384 : rC M359 o0 44 := rC.fund K355 A364 V365 (by have := mz_nat9 (i := (20 + v78)) (by have := R333.1 15 _ _ rfl; have := R333.1 16 _ _ rfl; have := R333.1 19 _ _ rfl; omega); have := R333.1 15 _ _ rfl; have := R333.1 16 _ _ rfl; have := R333.1 19 _ _ rfl; omega) (by have := R333.1 15 _ _ rfl; have := R333.1 16 _ _ rfl; have := R333.1 19 _ _ rfl; omega) (by have := R333.1 15 _ _ rfl; have := R333.1 16 _ _ rfl; have := R333.1 19 _ _ rfl; omega) (by have := R333.1 15 _ _ rfl; have := R333.1 16 _ _ rfl; have := R333.1 19 _ _ rfl; omega)
                        have h385 := rPB.fund kKP_319 kKB_319 (by have := mz_nat9 (i := v78) (by have := R333.1 15 _ _ rfl; have := R333.1 16 _ _ rfl; have := R333.1 19 _ _ rfl; omega); have := R333.1 15 _ _ rfl; have := R333.1 16 _ _ rfl; have := R333.1 19 _ _ rfl; omega) E334 (by have := mz_nat9 (i := ((12 * v78) + v78)) (by have := R333.1 15 _ _ rfl; have := R333.1 16 _ _ rfl; have := R333.1 19 _ _ rfl; omega); have := R333.1 15 _ _ rfl; have := R333.1 16 _ _ rfl; have := R333.1 19 _ _ rfl; omega) A335 V336 A364 (by have := R333.1 15 _ _ rfl; have := R333.1 16 _ _ rfl; have := R333.1 19 _ _ rfl; omega) (by have := R333.1 15 _ _ rfl; have := R333.1 16 _ _ rfl; have := R333.1 19 _ _ rfl; omega) (by have := R333.1 15 _ _ rfl; have := R333.1 16 _ _ rfl; have := R333.1 19 _ _ rfl; omega) (by have := R333.1 15 _ _ rfl; have := R333.1 16 _ _ rfl; have := R333.1 19 _ _ rfl; omega)
                        have K386 : rP M359 o0 := h385.1
                        have K387 : rB M359 o0 12 := h385.2
                        clear z337 z338 z339 z341 z342 z343 z345 z346 z347 z348 z349 z350 z351 z352
                        refine mv_iload d_TrustDeskModel_fund_300 rfl ?_
                        exact mv_iret d_TrustDeskModel_fund_302 rfl (by first | rfl | decide) ⟨_, I360, _, rfl, R363, K384, K386, K387, (by have := R363.1 15 _ _ rfl; have := R363.1 16 _ _ rfl; have := R363.1 19 _ _ rfl; omega), (Or.inr ⟨Im.o hG, by omega, Or.inl ⟨by omega, by omega, by omega, by omega⟩⟩), K382⟩
                      · refine mv_bipush (v := 20) d_TrustDeskModel_fund_166 (by decide) ?_
                        refine mv_iload_n d_TrustDeskModel_fund_168 rfl rfl ?_
                        refine mv_imul d_TrustDeskModel_fund_169 ?_
                        refine mv_iload d_TrustDeskModel_fund_170 rfl ?_
                        refine mv_iadd d_TrustDeskModel_fund_172 ?_
                        refine mv_istore (lv' := [(7, .int ((20 * (20 + v78)) + i6_319)), (6, .int i6_319), (5, .int v78), (4, .int v87), (3, .int (20 + v78)), (0, .ref o0), (1, .int x1), (2, .int x2)]) d_TrustDeskModel_fund_173 (by decide) rfl ?_
                        refine mv_aload_n d_TrustDeskModel_fund_175 rfl rfl ?_
                        obtain ⟨a389, q388, t_a389⟩ := tm_atR I_319 h_q0_319 (k := 7) rfl
                        refine tr_getK q388 d_TrustDeskModel_fund_176 f_TrustDeskModel_26_13 ?_
                        refine mv_iload d_TrustDeskModel_fund_179 rfl ?_
                        have b390 : (20 + v78 : Int32).toInt = (20 + v78.toInt) := mz_add2 (by decide) rfl (by have := kKR_319.1 15 _ _ rfl; have := kKR_319.1 16 _ _ rfl; have := kKR_319.1 19 _ _ rfl; omega) (by have := kKR_319.1 15 _ _ rfl; have := kKR_319.1 16 _ _ rfl; have := kKR_319.1 19 _ _ rfl; omega)
                        have b391 : (20 * (20 + v78) : Int32).toInt = (20 * (20 + v78.toInt)) := mz_mul2 (by decide) b390 (by have := kKR_319.1 15 _ _ rfl; have := kKR_319.1 16 _ _ rfl; have := kKR_319.1 19 _ _ rfl; omega) (by have := kKR_319.1 15 _ _ rfl; have := kKR_319.1 16 _ _ rfl; have := kKR_319.1 19 _ _ rfl; omega)
                        have b392 : ((20 * (20 + v78)) + i6_319 : Int32).toInt = ((20 * (20 + v78.toInt)) + i6_319.toInt) := mz_add2 b391 rfl (by have := kKR_319.1 15 _ _ rfl; have := kKR_319.1 16 _ _ rfl; have := kKR_319.1 19 _ _ rfl; omega) (by have := kKR_319.1 15 _ _ rfl; have := kKR_319.1 16 _ _ rfl; have := kKR_319.1 19 _ _ rfl; omega)
                        refine tr_ialdR (o := o0) (k := 7) I_319 q388 t_a389 (by decide) d_TrustDeskModel_fund_181 (vp_in_iff.mpr (by have := kKR_319.1 15 _ _ rfl; have := kKR_319.1 16 _ _ rfl; have := kKR_319.1 19 _ _ rfl; omega)) (fun v393 e394 => ?_)
                        have z395 : ra M_319 o0 7 ((20 * (20 + v78)) + i6_319).toNatClampNeg = v393.toInt := e394.symm
                        have h396 : ((20 * (20 + v78)) + i6_319).toNatClampNeg = 20 * (20 + v78).toNatClampNeg + i6_319.toInt.toNat := by have := mz_nat9 (i := ((20 * (20 + v78)) + i6_319)) (by have := kKR_319.1 15 _ _ rfl; have := kKR_319.1 16 _ _ rfl; have := kKR_319.1 19 _ _ rfl; omega); have := mz_nat9 (i := (20 + v78)) (by have := kKR_319.1 15 _ _ rfl; have := kKR_319.1 16 _ _ rfl; have := kKR_319.1 19 _ _ rfl; omega); have := kKR_319.1 15 _ _ rfl; have := kKR_319.1 16 _ _ rfl; have := kKR_319.1 19 _ _ rfl; omega
                        have : v393.toInt = ra M80 o0 7 (20 * (20 + v78).toNatClampNeg + i6_319.toInt.toNat) := by have e9 := kKY_319 7 rfl; rw [← e9, e394, h396]
                        refine mv_bipush (v := 7) d_TrustDeskModel_fund_182 (by decide) ?_
                        have := mz_hi v393
                        refine mv_icmp_neZ (tgt := 204) (a := v393.toInt) (b := 7) d_TrustDeskModel_fund_184 (by decide) rfl (by decide) (fun b397 => ?_) (fun b397 => ?_)
                        · refine mv_aload_n d_TrustDeskModel_fund_204 rfl rfl ?_
                          refine tr_getK (k := 7) q388 d_TrustDeskModel_fund_205 f_TrustDeskModel_26_13 ?_
                          refine mv_iload d_TrustDeskModel_fund_208 rfl ?_
                          have b398 : (20 + v78 : Int32).toInt = (20 + v78.toInt) := mz_add2 (by decide) rfl (by have := kKR_319.1 15 _ _ rfl; have := kKR_319.1 16 _ _ rfl; have := kKR_319.1 19 _ _ rfl; omega) (by have := kKR_319.1 15 _ _ rfl; have := kKR_319.1 16 _ _ rfl; have := kKR_319.1 19 _ _ rfl; omega)
                          have b399 : (20 * (20 + v78) : Int32).toInt = (20 * (20 + v78.toInt)) := mz_mul2 (by decide) b398 (by have := kKR_319.1 15 _ _ rfl; have := kKR_319.1 16 _ _ rfl; have := kKR_319.1 19 _ _ rfl; omega) (by have := kKR_319.1 15 _ _ rfl; have := kKR_319.1 16 _ _ rfl; have := kKR_319.1 19 _ _ rfl; omega)
                          have b400 : ((20 * (20 + v78)) + i6_319 : Int32).toInt = ((20 * (20 + v78.toInt)) + i6_319.toInt) := mz_add2 b399 rfl (by have := kKR_319.1 15 _ _ rfl; have := kKR_319.1 16 _ _ rfl; have := kKR_319.1 19 _ _ rfl; omega) (by have := kKR_319.1 15 _ _ rfl; have := kKR_319.1 16 _ _ rfl; have := kKR_319.1 19 _ _ rfl; omega)
                          refine tr_ialdR (o := o0) (k := 7) I_319 q388 t_a389 (by decide) d_TrustDeskModel_fund_210 (vp_in_iff.mpr (by have := kKR_319.1 15 _ _ rfl; have := kKR_319.1 16 _ _ rfl; have := kKR_319.1 19 _ _ rfl; omega)) (fun v401 e402 => ?_)
                          have : v401.toInt = _ := Eq.trans e402 z395
                          have h403 : ((20 * (20 + v78)) + i6_319).toNatClampNeg = 20 * (20 + v78).toNatClampNeg + i6_319.toInt.toNat := by have := mz_nat9 (i := ((20 * (20 + v78)) + i6_319)) (by have := kKR_319.1 15 _ _ rfl; have := kKR_319.1 16 _ _ rfl; have := kKR_319.1 19 _ _ rfl; omega); have := mz_nat9 (i := (20 + v78)) (by have := kKR_319.1 15 _ _ rfl; have := kKR_319.1 16 _ _ rfl; have := kKR_319.1 19 _ _ rfl; omega); have := kKR_319.1 15 _ _ rfl; have := kKR_319.1 16 _ _ rfl; have := kKR_319.1 19 _ _ rfl; omega
                          have : v401.toInt = ra M80 o0 7 (20 * (20 + v78).toNatClampNeg + i6_319.toInt.toNat) := by have e9 := kKY_319 7 rfl; rw [← e9, e402, h403]
                          refine mv_bipush (v := 9) d_TrustDeskModel_fund_211 (by decide) ?_
                          have := mz_hi v401
                          refine mv_icmp_neZ (tgt := 244) (a := v401.toInt) (b := 9) d_TrustDeskModel_fund_213 (by decide) rfl (by decide) (fun b404 => ?_) (fun b404 => ?_)
                          · refine mv_aload_n d_TrustDeskModel_fund_244 rfl rfl ?_
                            refine tr_getK (k := 7) q388 d_TrustDeskModel_fund_245 f_TrustDeskModel_26_13 ?_
                            refine mv_iload d_TrustDeskModel_fund_248 rfl ?_
                            have b405 : (20 + v78 : Int32).toInt = (20 + v78.toInt) := mz_add2 (by decide) rfl (by have := kKR_319.1 15 _ _ rfl; have := kKR_319.1 16 _ _ rfl; have := kKR_319.1 19 _ _ rfl; omega) (by have := kKR_319.1 15 _ _ rfl; have := kKR_319.1 16 _ _ rfl; have := kKR_319.1 19 _ _ rfl; omega)
                            have b406 : (20 * (20 + v78) : Int32).toInt = (20 * (20 + v78.toInt)) := mz_mul2 (by decide) b405 (by have := kKR_319.1 15 _ _ rfl; have := kKR_319.1 16 _ _ rfl; have := kKR_319.1 19 _ _ rfl; omega) (by have := kKR_319.1 15 _ _ rfl; have := kKR_319.1 16 _ _ rfl; have := kKR_319.1 19 _ _ rfl; omega)
                            have b407 : ((20 * (20 + v78)) + i6_319 : Int32).toInt = ((20 * (20 + v78.toInt)) + i6_319.toInt) := mz_add2 b406 rfl (by have := kKR_319.1 15 _ _ rfl; have := kKR_319.1 16 _ _ rfl; have := kKR_319.1 19 _ _ rfl; omega) (by have := kKR_319.1 15 _ _ rfl; have := kKR_319.1 16 _ _ rfl; have := kKR_319.1 19 _ _ rfl; omega)
                            refine tr_ialdR (o := o0) (k := 7) I_319 q388 t_a389 (by decide) d_TrustDeskModel_fund_250 (vp_in_iff.mpr (by have := kKR_319.1 15 _ _ rfl; have := kKR_319.1 16 _ _ rfl; have := kKR_319.1 19 _ _ rfl; omega)) (fun v408 e409 => ?_)
                            have : v408.toInt = _ := Eq.trans e409 z395
                            have h410 : ((20 * (20 + v78)) + i6_319).toNatClampNeg = 20 * (20 + v78).toNatClampNeg + i6_319.toInt.toNat := by have := mz_nat9 (i := ((20 * (20 + v78)) + i6_319)) (by have := kKR_319.1 15 _ _ rfl; have := kKR_319.1 16 _ _ rfl; have := kKR_319.1 19 _ _ rfl; omega); have := mz_nat9 (i := (20 + v78)) (by have := kKR_319.1 15 _ _ rfl; have := kKR_319.1 16 _ _ rfl; have := kKR_319.1 19 _ _ rfl; omega); have := kKR_319.1 15 _ _ rfl; have := kKR_319.1 16 _ _ rfl; have := kKR_319.1 19 _ _ rfl; omega
                            have : v408.toInt = ra M80 o0 7 (20 * (20 + v78).toNatClampNeg + i6_319.toInt.toNat) := by have e9 := kKY_319 7 rfl; rw [← e9, e409, h410]
                            refine mv_bipush (v := 8) d_TrustDeskModel_fund_251 (by decide) ?_
                            have := mz_hi v408
                            refine mv_icmp_neZ (tgt := 268) (a := v408.toInt) (b := 8) d_TrustDeskModel_fund_253 (by decide) rfl (by decide) (fun b411 => ?_) (fun b411 => ?_)
                            · refine mv_iinc (v := (i6_319 + 1)) (lv' := [(6, .int (i6_319 + 1)), (7, .int ((20 * (20 + v78)) + i6_319)), (5, .int v78), (4, .int v87), (3, .int (20 + v78)), (0, .ref o0), (1, .int x1), (2, .int x2)]) d_TrustDeskModel_fund_268 rfl rfl (by decide) rfl ?_
                              refine mv_goto (tgt := 155) d_TrustDeskModel_fund_271 (by decide) ?_
                              have b412 : (i6_319 + 1 : Int32).toInt = (i6_319.toInt + 1) := mz_add2 rfl (by decide) (by have := kKR_319.1 15 _ _ rfl; have := kKR_319.1 16 _ _ rfl; have := kKR_319.1 19 _ _ rfl; omega) (by have := kKR_319.1 15 _ _ rfl; have := kKR_319.1 16 _ _ rfl; have := kKR_319.1 19 _ _ rfl; omega)
                              refine mv_locals (lv' := [(6, .int (i6_319 + 1)), (5, .int v78), (4, .int v87), (3, .int (20 + v78)), (0, .ref o0), (1, .int x1), (2, .int x2)]) (by intro q hq; simp only [List.mem_cons, List.not_mem_nil, or_false] at hq; rcases hq with rfl | rfl | rfl | rfl | rfl | rfl | rfl <;> rfl) ?_
                              have b413 : (i6_319 + 1).toInt = i6_319.toInt + 1 := mz_addn 1 1 (by decide) (by have := mz_lo i6_319; omega) (by have := mz_hi i6_319; omega)
                              exact (ih319 (i6_319 + 1) T_319 M_319 n_319 I_319 h_q0_319 (by have := kKR_319.1 15 _ _ rfl; have := kKR_319.1 16 _ _ rfl; have := kKR_319.1 19 _ _ rfl; first | omega | decide | exact fun h9 => absurd (by decide) h9) (by have := kKR_319.1 15 _ _ rfl; have := kKR_319.1 16 _ _ rfl; have := kKR_319.1 19 _ _ rfl; first | omega | decide | exact fun h9 => absurd (by decide) h9) (by have := kKR_319.1 15 _ _ rfl; have := kKR_319.1 16 _ _ rfl; have := kKR_319.1 19 _ _ rfl; first | omega | decide | exact fun h9 => absurd (by decide) h9) (by have := kKR_319.1 15 _ _ rfl; have := kKR_319.1 16 _ _ rfl; have := kKR_319.1 19 _ _ rfl; first | omega | decide | exact fun h9 => absurd (by decide) h9) (by have := kKR_319.1 15 _ _ rfl; have := kKR_319.1 16 _ _ rfl; have := kKR_319.1 19 _ _ rfl; first | omega | decide | exact fun h9 => absurd (by decide) h9) (by have := kKR_319.1 15 _ _ rfl; have := kKR_319.1 16 _ _ rfl; have := kKR_319.1 19 _ _ rfl; first | omega | decide | exact fun h9 => absurd (by decide) h9) (by have := kKR_319.1 15 _ _ rfl; have := kKR_319.1 16 _ _ rfl; have := kKR_319.1 19 _ _ rfl; first | omega | decide | exact fun h9 => absurd (by decide) h9) (by rw [show (i6_319 + 1 : Int32).toInt.toNat = i6_319.toInt.toNat + 1 from by omega]; have := kKR_319.1 15 _ _ rfl; have := kKR_319.1 16 _ _ rfl; have := kKR_319.1 19 _ _ rfl; omega) (by have := kKR_319.1 15 _ _ rfl; have := kKR_319.1 16 _ _ rfl; have := kKR_319.1 19 _ _ rfl; first | omega | decide | exact fun h9 => absurd (by decide) h9) (by have := kKR_319.1 15 _ _ rfl; have := kKR_319.1 16 _ _ rfl; have := kKR_319.1 19 _ _ rfl; first | omega | decide | exact fun h9 => absurd (by decide) h9) (by have := kKR_319.1 15 _ _ rfl; have := kKR_319.1 16 _ _ rfl; have := kKR_319.1 19 _ _ rfl; first | omega | decide | exact fun h9 => absurd (by decide) h9) kKR_319 kKP_319 kKB_319 kKAA_319 kKY_319 kKC_319 (by have := kKR_319.1 15 _ _ rfl; have := kKR_319.1 16 _ _ rfl; have := kKR_319.1 19 _ _ rfl; omega))
                            · refine mv_aload_n d_TrustDeskModel_fund_256 rfl rfl ?_
                              refine mv_iload d_TrustDeskModel_fund_257 rfl ?_
                              refine mv_iload_n d_TrustDeskModel_fund_259 rfl rfl ?_
                              refine mv_iload d_TrustDeskModel_fund_260 rfl ?_
                              refine mv_iconst (v := 0) d_TrustDeskModel_fund_262 (by decide) ?_
                              refine mv_iconst (v := 0) d_TrustDeskModel_fund_263 (by decide) ?_
                              refine mv_iconst (v := (-1)) d_TrustDeskModel_fund_264 (by decide) ?_
                              obtain ⟨_, b420, -⟩ := I_319.1 _ _ h_q0_319
                              have b421 : (20 + v78 : Int32).toInt = (20 + v78.toInt) := mz_add2 (by decide) rfl (by have := kKR_319.1 15 _ _ rfl; have := kKR_319.1 16 _ _ rfl; have := kKR_319.1 19 _ _ rfl; omega) (by have := kKR_319.1 15 _ _ rfl; have := kKR_319.1 16 _ _ rfl; have := kKR_319.1 19 _ _ rfl; omega)
                              have b422 : (20 + v78 : Int32).toInt = (20 + v78.toInt) := mz_add2 (by decide) rfl (by have := kKR_319.1 15 _ _ rfl; have := kKR_319.1 16 _ _ rfl; have := kKR_319.1 19 _ _ rfl; omega) (by have := kKR_319.1 15 _ _ rfl; have := kKR_319.1 16 _ _ rfl; have := kKR_319.1 19 _ _ rfl; omega)
                              have b423 : (20 * (20 + v78) : Int32).toInt = (20 * (20 + v78.toInt)) := mz_mul2 (by decide) b422 (by have := kKR_319.1 15 _ _ rfl; have := kKR_319.1 16 _ _ rfl; have := kKR_319.1 19 _ _ rfl; omega) (by have := kKR_319.1 15 _ _ rfl; have := kKR_319.1 16 _ _ rfl; have := kKR_319.1 19 _ _ rfl; omega)
                              have b424 : ((20 * (20 + v78)) + i6_319 : Int32).toInt = ((20 * (20 + v78.toInt)) + i6_319.toInt) := mz_add2 b423 rfl (by have := kKR_319.1 15 _ _ rfl; have := kKR_319.1 16 _ _ rfl; have := kKR_319.1 19 _ _ rfl; omega) (by have := kKR_319.1 15 _ _ rfl; have := kKR_319.1 16 _ _ rfl; have := kKR_319.1 19 _ _ rfl; omega)
                              have : (0 : Int32).toInt = 0 := by decide
                              have : (0 : Int32).toInt = 0 := by decide
                              have : ((-1) : Int32).toInt = (-1) := by decide
                              refine mv_callV (kc' := 0) (ks' := 0) (As := [.int v78, .int (20 + v78), .int ((20 * (20 + v78)) + i6_319), .int 0, .int 0, .int (-1)]) (st9 := [.int (-1), .int 0, .int 0, .int ((20 * (20 + v78)) + i6_319), .int (20 + v78), .int v78, .ref o0]) d_TrustDeskModel_fund_265 lV_TrustDeskModel_428 b420 rfl (tc_TrustDeskModel_addEnd_x (d := (d + 26)) (x9 := x9) (o0 := o0) (x1 := v78) (x2 := (20 + v78)) (x3 := ((20 * (20 + v78)) + i6_319)) (x4 := 0) (x5 := 0) (x6 := (-1)) h_q0_319 (by have := kKR_319.1 15 _ _ rfl; have := kKR_319.1 16 _ _ rfl; have := kKR_319.1 19 _ _ rfl; omega) (by have := kKR_319.1 15 _ _ rfl; have := kKR_319.1 16 _ _ rfl; have := kKR_319.1 19 _ _ rfl; omega) (by have := kKR_319.1 15 _ _ rfl; have := kKR_319.1 16 _ _ rfl; have := kKR_319.1 19 _ _ rfl; omega) kKR_319 (by have := kKR_319.1 15 _ _ rfl; have := kKR_319.1 16 _ _ rfl; have := kKR_319.1 19 _ _ rfl; omega) I_319.start) rfl (Nat.le_of_ble_eq_true rfl) (Nat.le_of_ble_eq_true rfl) (Nat.le_of_ble_eq_true rfl) (hst := rfl) (fun b414r M415 n416 b414 => ?_)
                              obtain ⟨T417, J418, rfl, R425, f426⟩ := b414
                              have I419 := I_319.call J418 (tm_sub (by decide)) (Or.inl rfl)
                              have t427 := J418.up h_q0_319
                              have z428 := (rv_c I_319 J418 (I_319.up h_o0) (k := 15) rfl)
                              have z429 := (rv_c I_319 J418 (I_319.up h_o0) (k := 16) rfl)
                              have z430 := (rv_c I_319 J418 (I_319.up h_o0) (k := 17) rfl)
                              have z431 := (rv_c I_319 J418 (I_319.up h_o0) (k := 19) rfl)
                              have z432 := (rv_c I_319 J418 (I_319.up h_o0) (k := 22) rfl)
                              have z433 := (rv_c I_319 J418 (I_319.up h_o0) (k := 24) rfl)
                              have z434 := (rv_c I_319 J418 (I_319.up h_o0) (k := 27) rfl)
                              have z435 := (rv_c I_319 J418 (I_319.up h_o0) (k := 32) rfl)
                              have z436 := (rv_c I_319 J418 (I_319.up h_o0) (k := 49) rfl)
                              have z437 := (rv_c I_319 J418 (I_319.up h_o0) (k := 14) rfl)
                              have z438 := (rv_c I_319 J418 (I_319.up h_o0) (k := 21) rfl)
                              have z439 := (ra_call I_319 J418 (I_319.up h_o0) (k := 5) rfl rfl rfl 44)
                              have z440 := (ra_call I_319 J418 (I_319.up h_o0) (k := 6) rfl rfl rfl 44)
                              have z441 := (ra_call I_319 J418 (I_319.up h_o0) (k := 6) rfl rfl rfl ((20 + v78).toNatClampNeg))
                              have z442 := (ra_call I_319 J418 (I_319.up h_o0) (k := 37) rfl rfl rfl v78.toNatClampNeg)
                              have z443 := (ra_call I_319 J418 (I_319.up h_o0) (k := 7) rfl rfl rfl (((20 * (20 + v78)) + i6_319).toNatClampNeg)).trans z395
                              have K444 : rP M415 o0 := kKP_319.same (sA_c I_319 J418 (I_319.up h_o0) (by decide +kernel)) (sF_c I_319 J418 (I_319.up h_o0) (by decide +kernel))
                              have K445 : rB M415 o0 v78.toNatClampNeg := kKB_319.add f426 (sA_c I_319 J418 (I_319.up h_o0) (by decide)) (sF_c I_319 J418 (I_319.up h_o0) (by decide)) (by have := mz_nat9 (i := v78) (by have := kKR_319.1 15 _ _ rfl; have := kKR_319.1 16 _ _ rfl; have := kKR_319.1 19 _ _ rfl; omega); have := kKR_319.1 15 _ _ rfl; have := kKR_319.1 16 _ _ rfl; have := kKR_319.1 19 _ _ rfl; omega)
                              have K446 : aA M415 o0 (rv M0 o0 27) fr va := kKAA_319.same (sA_c I_319 J418 (I_319.up h_o0) (by decide +kernel))
                              have K447 : sA [7] M80 M415 o0 := kKY_319.trans (sA_c I_319 J418 (I_319.up h_o0) (by decide +kernel))
                              have K448 : rC M415 o0 ((20 + v78).toNatClampNeg) := kKC_319.add kKR_319 f426 (by have := mz_nat9 (i := v78) (by have := kKR_319.1 15 _ _ rfl; have := kKR_319.1 16 _ _ rfl; have := kKR_319.1 19 _ _ rfl; omega); have := kKR_319.1 15 _ _ rfl; have := kKR_319.1 16 _ _ rfl; have := kKR_319.1 19 _ _ rfl; omega) i6_319.toInt.toNat (by have := kKR_319.1 15 _ _ rfl; have := kKR_319.1 16 _ _ rfl; have := kKR_319.1 19 _ _ rfl; omega) (by have := mz_nat9 (i := i6_319) (by have := kKR_319.1 15 _ _ rfl; have := kKR_319.1 16 _ _ rfl; have := kKR_319.1 19 _ _ rfl; omega); have := kKR_319.1 15 _ _ rfl; have := kKR_319.1 16 _ _ rfl; have := kKR_319.1 19 _ _ rfl; omega) (by rw [show ((20 * (20 + v78)) + i6_319).toInt.toNat = ((20 * (20 + v78)) + i6_319).toNatClampNeg from by have := mz_nat9 (i := ((20 * (20 + v78)) + i6_319)) (by have := kKR_319.1 15 _ _ rfl; have := kKR_319.1 16 _ _ rfl; have := kKR_319.1 19 _ _ rfl; omega); have := kKR_319.1 15 _ _ rfl; have := kKR_319.1 16 _ _ rfl; have := kKR_319.1 19 _ _ rfl; omega]; omega) (sA_c I_319 J418 (I_319.up h_o0) (by decide)) (sF_c I_319 J418 (I_319.up h_o0) (by decide))
                              have := f426.2.2 v78.toNatClampNeg
                              rw [if_pos rfl] at this
                              clear z395
                              have q449 := J418.keep h_q0_319 (by decide) q320
                              have t450 := J418.up t_a321
                              have q451 := J418.keep h_q0_319 (by decide) q388
                              have t452 := J418.up t_a389
                              refine mv_iinc (v := (i6_319 + 1)) (lv' := [(6, .int (i6_319 + 1)), (7, .int ((20 * (20 + v78)) + i6_319)), (5, .int v78), (4, .int v87), (3, .int (20 + v78)), (0, .ref o0), (1, .int x1), (2, .int x2)]) d_TrustDeskModel_fund_268 rfl rfl (by decide) rfl ?_
                              refine mv_goto (tgt := 155) d_TrustDeskModel_fund_271 (by decide) ?_
                              have b453 : (i6_319 + 1 : Int32).toInt = (i6_319.toInt + 1) := mz_add2 rfl (by decide) (by have := R425.1 15 _ _ rfl; have := R425.1 16 _ _ rfl; have := R425.1 19 _ _ rfl; omega) (by have := R425.1 15 _ _ rfl; have := R425.1 16 _ _ rfl; have := R425.1 19 _ _ rfl; omega)
                              refine mv_locals (lv' := [(6, .int (i6_319 + 1)), (5, .int v78), (4, .int v87), (3, .int (20 + v78)), (0, .ref o0), (1, .int x1), (2, .int x2)]) (by intro q hq; simp only [List.mem_cons, List.not_mem_nil, or_false] at hq; rcases hq with rfl | rfl | rfl | rfl | rfl | rfl | rfl <;> rfl) ?_
                              have b454 : (i6_319 + 1).toInt = i6_319.toInt + 1 := mz_addn 1 1 (by decide) (by have := mz_lo i6_319; omega) (by have := mz_hi i6_319; omega)
                              exact (ih319 (i6_319 + 1) T417 M415 n416 I419 t427 (by have := R425.1 15 _ _ rfl; have := R425.1 16 _ _ rfl; have := R425.1 19 _ _ rfl; first | omega | decide | exact fun h9 => absurd (by decide) h9) (by have := R425.1 15 _ _ rfl; have := R425.1 16 _ _ rfl; have := R425.1 19 _ _ rfl; first | omega | decide | exact fun h9 => absurd (by decide) h9) (by have := R425.1 15 _ _ rfl; have := R425.1 16 _ _ rfl; have := R425.1 19 _ _ rfl; first | omega | decide | exact fun h9 => absurd (by decide) h9) (by have := R425.1 15 _ _ rfl; have := R425.1 16 _ _ rfl; have := R425.1 19 _ _ rfl; first | omega | decide | exact fun h9 => absurd (by decide) h9) (by have := R425.1 15 _ _ rfl; have := R425.1 16 _ _ rfl; have := R425.1 19 _ _ rfl; first | omega | decide | exact fun h9 => absurd (by decide) h9) (by have := R425.1 15 _ _ rfl; have := R425.1 16 _ _ rfl; have := R425.1 19 _ _ rfl; first | omega | decide | exact fun h9 => absurd (by decide) h9) (by have := R425.1 15 _ _ rfl; have := R425.1 16 _ _ rfl; have := R425.1 19 _ _ rfl; first | omega | decide | exact fun h9 => absurd (by decide) h9) (by rw [show (i6_319 + 1 : Int32).toInt.toNat = i6_319.toInt.toNat + 1 from by omega]; have := R425.1 15 _ _ rfl; have := R425.1 16 _ _ rfl; have := R425.1 19 _ _ rfl; omega) (by have := R425.1 15 _ _ rfl; have := R425.1 16 _ _ rfl; have := R425.1 19 _ _ rfl; first | omega | decide | exact fun h9 => absurd (by decide) h9) (by have := R425.1 15 _ _ rfl; have := R425.1 16 _ _ rfl; have := R425.1 19 _ _ rfl; first | omega | decide | exact fun h9 => absurd (by decide) h9) (by have := R425.1 15 _ _ rfl; have := R425.1 16 _ _ rfl; have := R425.1 19 _ _ rfl; first | omega | decide | exact fun h9 => absurd (by decide) h9) R425 K444 K445 K446 K447 K448 (by have := R425.1 15 _ _ rfl; have := R425.1 16 _ _ rfl; have := R425.1 19 _ _ rfl; omega))
                          · refine mv_aload_n d_TrustDeskModel_fund_216 rfl rfl ?_
                            obtain ⟨a456, q455, t_a456⟩ := tm_atR I_319 h_q0_319 (k := 38) rfl
                            refine tr_getK q455 d_TrustDeskModel_fund_217 f_TrustDeskModel_82_13 ?_
                            refine mv_iload d_TrustDeskModel_fund_220 rfl ?_
                            refine mv_aload_n d_TrustDeskModel_fund_222 rfl rfl ?_
                            obtain ⟨a458, q457, t_a458⟩ := tm_atR I_319 h_q0_319 (k := 8) rfl
                            refine tr_getK q457 d_TrustDeskModel_fund_223 f_TrustDeskModel_29_13 ?_
                            refine mv_iload d_TrustDeskModel_fund_226 rfl ?_
                            have b459 : (20 + v78 : Int32).toInt = (20 + v78.toInt) := mz_add2 (by decide) rfl (by have := kKR_319.1 15 _ _ rfl; have := kKR_319.1 16 _ _ rfl; have := kKR_319.1 19 _ _ rfl; omega) (by have := kKR_319.1 15 _ _ rfl; have := kKR_319.1 16 _ _ rfl; have := kKR_319.1 19 _ _ rfl; omega)
                            have b460 : (20 * (20 + v78) : Int32).toInt = (20 * (20 + v78.toInt)) := mz_mul2 (by decide) b459 (by have := kKR_319.1 15 _ _ rfl; have := kKR_319.1 16 _ _ rfl; have := kKR_319.1 19 _ _ rfl; omega) (by have := kKR_319.1 15 _ _ rfl; have := kKR_319.1 16 _ _ rfl; have := kKR_319.1 19 _ _ rfl; omega)
                            have b461 : ((20 * (20 + v78)) + i6_319 : Int32).toInt = ((20 * (20 + v78.toInt)) + i6_319.toInt) := mz_add2 b460 rfl (by have := kKR_319.1 15 _ _ rfl; have := kKR_319.1 16 _ _ rfl; have := kKR_319.1 19 _ _ rfl; omega) (by have := kKR_319.1 15 _ _ rfl; have := kKR_319.1 16 _ _ rfl; have := kKR_319.1 19 _ _ rfl; omega)
                            refine tr_ialdR (o := o0) (k := 8) I_319 q457 t_a458 (by decide) d_TrustDeskModel_fund_228 (vp_in_iff.mpr (by have := kKR_319.1 15 _ _ rfl; have := kKR_319.1 16 _ _ rfl; have := kKR_319.1 19 _ _ rfl; omega)) (fun v462 e463 => ?_)
                            have := kKR_319.a (k := 8) rfl (((20 * (20 + v78)) + i6_319) : Int32).toNatClampNeg
                            refine tr_iastR (k := 38) I_319 kKR_319 (I_319.up h_o0) q455 t_a456 (by decide) (by decide) (fun lo hi h => by cases h) (Or.inl (by decide)) d_TrustDeskModel_fund_229 (vp_in_iff.mpr (by have := kKR_319.1 15 _ _ rfl; have := kKR_319.1 16 _ _ rfl; have := kKR_319.1 19 _ _ rfl; omega)) (fun M464 I465 K466 R467 E468 A469 V470 => ?_)
                            have z471 := (V470 15)
                            have z472 := (V470 16)
                            have z473 := (V470 17)
                            have z474 := (V470 19)
                            have z475 := (V470 22)
                            have z476 := (V470 24)
                            have z477 := (V470 27)
                            have z478 := (V470 32)
                            have z479 := (V470 49)
                            have z480 := (V470 14)
                            have z481 := (V470 21)
                            have z482 := (A469 5 (by decide) rfl 44)
                            have z483 := (A469 6 (by decide) rfl 44)
                            have z484 := (A469 6 (by decide) rfl ((20 + v78).toNatClampNeg))
                            have z485 := (A469 43 (by decide) rfl v78.toNatClampNeg)
                            have z486 := (A469 37 (by decide) rfl v78.toNatClampNeg)
                            have z487 := (A469 7 (by decide) rfl (((20 * (20 + v78)) + i6_319).toNatClampNeg)).trans z395
                            have K488 : rP M464 o0 := kKP_319.same (sA_a A469 (by decide +kernel)) (sF_a V470)
                            have K489 : rB M464 o0 v78.toNatClampNeg := kKB_319.same (sA_a A469 (by decide +kernel)) (sF_a V470)
                            have K490 : aA M464 o0 (rv M0 o0 27) fr va := kKAA_319.same (sA_a A469 (by decide +kernel))
                            have K491 : sA [7] M80 M464 o0 := kKY_319.trans (sA_a A469 (by decide +kernel))
                            have K492 : rC M464 o0 ((20 + v78).toNatClampNeg) := kKC_319.same (sA_a A469 (by decide +kernel)) (sF_a V470)
                            clear z395
                            refine mv_aload_n d_TrustDeskModel_fund_230 rfl rfl ?_
                            obtain ⟨a494, q493, t_a494⟩ := tm_atR I465 h_q0_319 (k := 39) rfl
                            refine tr_getK q493 d_TrustDeskModel_fund_231 f_TrustDeskModel_85_13 ?_
                            refine mv_iload d_TrustDeskModel_fund_234 rfl ?_
                            refine mv_aload_n d_TrustDeskModel_fund_236 rfl rfl ?_
                            obtain ⟨a496, q495, t_a496⟩ := tm_atR I465 h_q0_319 (k := 9) rfl
                            refine tr_getK q495 d_TrustDeskModel_fund_237 f_TrustDeskModel_32_13 ?_
                            refine mv_iload d_TrustDeskModel_fund_240 rfl ?_
                            have b497 : (20 + v78 : Int32).toInt = (20 + v78.toInt) := mz_add2 (by decide) rfl (by have := R467.1 15 _ _ rfl; have := R467.1 16 _ _ rfl; have := R467.1 19 _ _ rfl; omega) (by have := R467.1 15 _ _ rfl; have := R467.1 16 _ _ rfl; have := R467.1 19 _ _ rfl; omega)
                            have b498 : (20 * (20 + v78) : Int32).toInt = (20 * (20 + v78.toInt)) := mz_mul2 (by decide) b497 (by have := R467.1 15 _ _ rfl; have := R467.1 16 _ _ rfl; have := R467.1 19 _ _ rfl; omega) (by have := R467.1 15 _ _ rfl; have := R467.1 16 _ _ rfl; have := R467.1 19 _ _ rfl; omega)
                            have b499 : ((20 * (20 + v78)) + i6_319 : Int32).toInt = ((20 * (20 + v78.toInt)) + i6_319.toInt) := mz_add2 b498 rfl (by have := R467.1 15 _ _ rfl; have := R467.1 16 _ _ rfl; have := R467.1 19 _ _ rfl; omega) (by have := R467.1 15 _ _ rfl; have := R467.1 16 _ _ rfl; have := R467.1 19 _ _ rfl; omega)
                            refine tr_ialdR (o := o0) (k := 9) I465 q495 t_a496 (by decide) d_TrustDeskModel_fund_242 (vp_in_iff.mpr (by have := R467.1 15 _ _ rfl; have := R467.1 16 _ _ rfl; have := R467.1 19 _ _ rfl; omega)) (fun v500 e501 => ?_)
                            refine tr_iastR (k := 39) I465 R467 (I465.up h_o0) q493 t_a494 (by decide) (by decide) (fun lo hi h => by cases h) (Or.inl (by decide)) d_TrustDeskModel_fund_243 (vp_in_iff.mpr (by have := R467.1 15 _ _ rfl; have := R467.1 16 _ _ rfl; have := R467.1 19 _ _ rfl; omega)) (fun M502 I503 K504 R505 E506 A507 V508 => ?_)
                            have z509 := (V508 15).trans z471
                            have z510 := (V508 16).trans z472
                            have z511 := (V508 17).trans z473
                            have z512 := (V508 19).trans z474
                            have z513 := (V508 22).trans z475
                            have z514 := (V508 24).trans z476
                            have z515 := (V508 27).trans z477
                            have z516 := (V508 32).trans z478
                            have z517 := (V508 49).trans z479
                            have z518 := (V508 14).trans z480
                            have z519 := (V508 21).trans z481
                            have z520 := (A507 5 (by decide) rfl 44).trans z482
                            have z521 := (A507 6 (by decide) rfl 44).trans z483
                            have z522 := (A507 6 (by decide) rfl ((20 + v78).toNatClampNeg)).trans z484
                            have z523 := (A507 43 (by decide) rfl v78.toNatClampNeg).trans z485
                            have z524 := (A507 37 (by decide) rfl v78.toNatClampNeg).trans z486
                            have z525 := (A507 7 (by decide) rfl (((20 * (20 + v78)) + i6_319).toNatClampNeg)).trans z487
                            have K526 : rP M502 o0 := K488.same (sA_a A507 (by decide +kernel)) (sF_a V508)
                            have K527 : rB M502 o0 v78.toNatClampNeg := K489.same (sA_a A507 (by decide +kernel)) (sF_a V508)
                            have K528 : aA M502 o0 (rv M0 o0 27) fr va := K490.same (sA_a A507 (by decide +kernel))
                            have K529 : sA [7] M80 M502 o0 := K491.trans (sA_a A507 (by decide +kernel))
                            have K530 : rC M502 o0 ((20 + v78).toNatClampNeg) := K492.same (sA_a A507 (by decide +kernel)) (sF_a V508)
                            clear z471 z472 z473 z475 z476 z477 z478 z479 z480 z481 z482 z483 z484 z485 z486 z487
                            refine mv_aload_n d_TrustDeskModel_fund_244 rfl rfl ?_
                            refine tr_getK (k := 7) (K504 _ 13 7 _ (K466 _ 13 7 _ q388)) d_TrustDeskModel_fund_245 f_TrustDeskModel_26_13 ?_
                            refine mv_iload d_TrustDeskModel_fund_248 rfl ?_
                            have b531 : (20 + v78 : Int32).toInt = (20 + v78.toInt) := mz_add2 (by decide) rfl (by have := R505.1 15 _ _ rfl; have := R505.1 16 _ _ rfl; have := R505.1 19 _ _ rfl; omega) (by have := R505.1 15 _ _ rfl; have := R505.1 16 _ _ rfl; have := R505.1 19 _ _ rfl; omega)
                            have b532 : (20 * (20 + v78) : Int32).toInt = (20 * (20 + v78.toInt)) := mz_mul2 (by decide) b531 (by have := R505.1 15 _ _ rfl; have := R505.1 16 _ _ rfl; have := R505.1 19 _ _ rfl; omega) (by have := R505.1 15 _ _ rfl; have := R505.1 16 _ _ rfl; have := R505.1 19 _ _ rfl; omega)
                            have b533 : ((20 * (20 + v78)) + i6_319 : Int32).toInt = ((20 * (20 + v78.toInt)) + i6_319.toInt) := mz_add2 b532 rfl (by have := R505.1 15 _ _ rfl; have := R505.1 16 _ _ rfl; have := R505.1 19 _ _ rfl; omega) (by have := R505.1 15 _ _ rfl; have := R505.1 16 _ _ rfl; have := R505.1 19 _ _ rfl; omega)
                            refine tr_ialdR (o := o0) (k := 7) I503 (K504 _ 13 7 _ (K466 _ 13 7 _ q388)) t_a389 (by decide) d_TrustDeskModel_fund_250 (vp_in_iff.mpr (by have := R505.1 15 _ _ rfl; have := R505.1 16 _ _ rfl; have := R505.1 19 _ _ rfl; omega)) (fun v534 e535 => ?_)
                            have : v534.toInt = _ := Eq.trans e535 z525
                            have h536 : ((20 * (20 + v78)) + i6_319).toNatClampNeg = 20 * (20 + v78).toNatClampNeg + i6_319.toInt.toNat := by have := mz_nat9 (i := ((20 * (20 + v78)) + i6_319)) (by have := R505.1 15 _ _ rfl; have := R505.1 16 _ _ rfl; have := R505.1 19 _ _ rfl; omega); have := mz_nat9 (i := (20 + v78)) (by have := R505.1 15 _ _ rfl; have := R505.1 16 _ _ rfl; have := R505.1 19 _ _ rfl; omega); have := R505.1 15 _ _ rfl; have := R505.1 16 _ _ rfl; have := R505.1 19 _ _ rfl; omega
                            have : v534.toInt = ra M80 o0 7 (20 * (20 + v78).toNatClampNeg + i6_319.toInt.toNat) := by have e9 := K529 7 rfl; rw [← e9, e535, h536]
                            refine mv_bipush (v := 8) d_TrustDeskModel_fund_251 (by decide) ?_
                            have := mz_hi v534
                            refine mv_icmp_neZ (tgt := 268) (a := v534.toInt) (b := 8) d_TrustDeskModel_fund_253 (by decide) rfl (by decide) (fun b537 => ?_) (fun b537 => ?_)
                            · refine mv_iinc (v := (i6_319 + 1)) (lv' := [(6, .int (i6_319 + 1)), (7, .int ((20 * (20 + v78)) + i6_319)), (5, .int v78), (4, .int v87), (3, .int (20 + v78)), (0, .ref o0), (1, .int x1), (2, .int x2)]) d_TrustDeskModel_fund_268 rfl rfl (by decide) rfl ?_
                              refine mv_goto (tgt := 155) d_TrustDeskModel_fund_271 (by decide) ?_
                              have b538 : (i6_319 + 1 : Int32).toInt = (i6_319.toInt + 1) := mz_add2 rfl (by decide) (by have := R505.1 15 _ _ rfl; have := R505.1 16 _ _ rfl; have := R505.1 19 _ _ rfl; omega) (by have := R505.1 15 _ _ rfl; have := R505.1 16 _ _ rfl; have := R505.1 19 _ _ rfl; omega)
                              refine mv_locals (lv' := [(6, .int (i6_319 + 1)), (5, .int v78), (4, .int v87), (3, .int (20 + v78)), (0, .ref o0), (1, .int x1), (2, .int x2)]) (by intro q hq; simp only [List.mem_cons, List.not_mem_nil, or_false] at hq; rcases hq with rfl | rfl | rfl | rfl | rfl | rfl | rfl <;> rfl) ?_
                              have b539 : (i6_319 + 1).toInt = i6_319.toInt + 1 := mz_addn 1 1 (by decide) (by have := mz_lo i6_319; omega) (by have := mz_hi i6_319; omega)
                              exact (ih319 (i6_319 + 1) T_319 M502 n_319 I503 h_q0_319 (by have := R505.1 15 _ _ rfl; have := R505.1 16 _ _ rfl; have := R505.1 19 _ _ rfl; first | omega | decide | exact fun h9 => absurd (by decide) h9) (by have := R505.1 15 _ _ rfl; have := R505.1 16 _ _ rfl; have := R505.1 19 _ _ rfl; first | omega | decide | exact fun h9 => absurd (by decide) h9) (by have := R505.1 15 _ _ rfl; have := R505.1 16 _ _ rfl; have := R505.1 19 _ _ rfl; first | omega | decide | exact fun h9 => absurd (by decide) h9) (by have := R505.1 15 _ _ rfl; have := R505.1 16 _ _ rfl; have := R505.1 19 _ _ rfl; first | omega | decide | exact fun h9 => absurd (by decide) h9) (by have := R505.1 15 _ _ rfl; have := R505.1 16 _ _ rfl; have := R505.1 19 _ _ rfl; first | omega | decide | exact fun h9 => absurd (by decide) h9) (by have := R505.1 15 _ _ rfl; have := R505.1 16 _ _ rfl; have := R505.1 19 _ _ rfl; first | omega | decide | exact fun h9 => absurd (by decide) h9) (by have := R505.1 15 _ _ rfl; have := R505.1 16 _ _ rfl; have := R505.1 19 _ _ rfl; first | omega | decide | exact fun h9 => absurd (by decide) h9) (by rw [show (i6_319 + 1 : Int32).toInt.toNat = i6_319.toInt.toNat + 1 from by omega]; have := R505.1 15 _ _ rfl; have := R505.1 16 _ _ rfl; have := R505.1 19 _ _ rfl; omega) (by have := R505.1 15 _ _ rfl; have := R505.1 16 _ _ rfl; have := R505.1 19 _ _ rfl; first | omega | decide | exact fun h9 => absurd (by decide) h9) (by have := R505.1 15 _ _ rfl; have := R505.1 16 _ _ rfl; have := R505.1 19 _ _ rfl; first | omega | decide | exact fun h9 => absurd (by decide) h9) (by have := R505.1 15 _ _ rfl; have := R505.1 16 _ _ rfl; have := R505.1 19 _ _ rfl; first | omega | decide | exact fun h9 => absurd (by decide) h9) R505 K526 K527 K528 K529 K530 (by have := R505.1 15 _ _ rfl; have := R505.1 16 _ _ rfl; have := R505.1 19 _ _ rfl; omega))
                            · refine mv_aload_n d_TrustDeskModel_fund_256 rfl rfl ?_
                              refine mv_iload d_TrustDeskModel_fund_257 rfl ?_
                              refine mv_iload_n d_TrustDeskModel_fund_259 rfl rfl ?_
                              refine mv_iload d_TrustDeskModel_fund_260 rfl ?_
                              refine mv_iconst (v := 0) d_TrustDeskModel_fund_262 (by decide) ?_
                              refine mv_iconst (v := 0) d_TrustDeskModel_fund_263 (by decide) ?_
                              refine mv_iconst (v := (-1)) d_TrustDeskModel_fund_264 (by decide) ?_
                              obtain ⟨_, b546, -⟩ := I503.1 _ _ h_q0_319
                              have b547 : (20 + v78 : Int32).toInt = (20 + v78.toInt) := mz_add2 (by decide) rfl (by have := R505.1 15 _ _ rfl; have := R505.1 16 _ _ rfl; have := R505.1 19 _ _ rfl; omega) (by have := R505.1 15 _ _ rfl; have := R505.1 16 _ _ rfl; have := R505.1 19 _ _ rfl; omega)
                              have b548 : (20 + v78 : Int32).toInt = (20 + v78.toInt) := mz_add2 (by decide) rfl (by have := R505.1 15 _ _ rfl; have := R505.1 16 _ _ rfl; have := R505.1 19 _ _ rfl; omega) (by have := R505.1 15 _ _ rfl; have := R505.1 16 _ _ rfl; have := R505.1 19 _ _ rfl; omega)
                              have b549 : (20 * (20 + v78) : Int32).toInt = (20 * (20 + v78.toInt)) := mz_mul2 (by decide) b548 (by have := R505.1 15 _ _ rfl; have := R505.1 16 _ _ rfl; have := R505.1 19 _ _ rfl; omega) (by have := R505.1 15 _ _ rfl; have := R505.1 16 _ _ rfl; have := R505.1 19 _ _ rfl; omega)
                              have b550 : ((20 * (20 + v78)) + i6_319 : Int32).toInt = ((20 * (20 + v78.toInt)) + i6_319.toInt) := mz_add2 b549 rfl (by have := R505.1 15 _ _ rfl; have := R505.1 16 _ _ rfl; have := R505.1 19 _ _ rfl; omega) (by have := R505.1 15 _ _ rfl; have := R505.1 16 _ _ rfl; have := R505.1 19 _ _ rfl; omega)
                              have : (0 : Int32).toInt = 0 := by decide
                              have : (0 : Int32).toInt = 0 := by decide
                              have : ((-1) : Int32).toInt = (-1) := by decide
                              refine mv_callV (kc' := 0) (ks' := 0) (As := [.int v78, .int (20 + v78), .int ((20 * (20 + v78)) + i6_319), .int 0, .int 0, .int (-1)]) (st9 := [.int (-1), .int 0, .int 0, .int ((20 * (20 + v78)) + i6_319), .int (20 + v78), .int v78, .ref o0]) d_TrustDeskModel_fund_265 lV_TrustDeskModel_428 b546 rfl (tc_TrustDeskModel_addEnd_x (d := (d + 26)) (x9 := x9) (o0 := o0) (x1 := v78) (x2 := (20 + v78)) (x3 := ((20 * (20 + v78)) + i6_319)) (x4 := 0) (x5 := 0) (x6 := (-1)) h_q0_319 (by have := R505.1 15 _ _ rfl; have := R505.1 16 _ _ rfl; have := R505.1 19 _ _ rfl; omega) (by have := R505.1 15 _ _ rfl; have := R505.1 16 _ _ rfl; have := R505.1 19 _ _ rfl; omega) (by have := R505.1 15 _ _ rfl; have := R505.1 16 _ _ rfl; have := R505.1 19 _ _ rfl; omega) R505 (by have := R505.1 15 _ _ rfl; have := R505.1 16 _ _ rfl; have := R505.1 19 _ _ rfl; omega) I503.start) rfl (Nat.le_of_ble_eq_true rfl) (Nat.le_of_ble_eq_true rfl) (Nat.le_of_ble_eq_true rfl) (hst := rfl) (fun b540r M541 n542 b540 => ?_)
                              obtain ⟨T543, J544, rfl, R551, f552⟩ := b540
                              have I545 := I503.call J544 (tm_sub (by decide)) (Or.inl rfl)
                              have t553 := J544.up h_q0_319
                              have z554 := (rv_c I503 J544 (I503.up h_o0) (k := 15) rfl).trans z509
                              have z555 := (rv_c I503 J544 (I503.up h_o0) (k := 16) rfl).trans z510
                              have z556 := (rv_c I503 J544 (I503.up h_o0) (k := 17) rfl).trans z511
                              have z557 := (rv_c I503 J544 (I503.up h_o0) (k := 19) rfl).trans z512
                              have z558 := (rv_c I503 J544 (I503.up h_o0) (k := 22) rfl).trans z513
                              have z559 := (rv_c I503 J544 (I503.up h_o0) (k := 24) rfl).trans z514
                              have z560 := (rv_c I503 J544 (I503.up h_o0) (k := 27) rfl).trans z515
                              have z561 := (rv_c I503 J544 (I503.up h_o0) (k := 32) rfl).trans z516
                              have z562 := (rv_c I503 J544 (I503.up h_o0) (k := 49) rfl).trans z517
                              have z563 := (rv_c I503 J544 (I503.up h_o0) (k := 14) rfl).trans z518
                              have z564 := (rv_c I503 J544 (I503.up h_o0) (k := 21) rfl).trans z519
                              have z565 := (ra_call I503 J544 (I503.up h_o0) (k := 5) rfl rfl rfl 44).trans z520
                              have z566 := (ra_call I503 J544 (I503.up h_o0) (k := 6) rfl rfl rfl 44).trans z521
                              have z567 := (ra_call I503 J544 (I503.up h_o0) (k := 6) rfl rfl rfl ((20 + v78).toNatClampNeg)).trans z522
                              have z568 := (ra_call I503 J544 (I503.up h_o0) (k := 37) rfl rfl rfl v78.toNatClampNeg).trans z524
                              have z569 := (ra_call I503 J544 (I503.up h_o0) (k := 7) rfl rfl rfl (((20 * (20 + v78)) + i6_319).toNatClampNeg)).trans z525
                              have K570 : rP M541 o0 := K526.same (sA_c I503 J544 (I503.up h_o0) (by decide +kernel)) (sF_c I503 J544 (I503.up h_o0) (by decide +kernel))
                              have K571 : rB M541 o0 v78.toNatClampNeg := K527.add f552 (sA_c I503 J544 (I503.up h_o0) (by decide)) (sF_c I503 J544 (I503.up h_o0) (by decide)) (by have := mz_nat9 (i := v78) (by have := R505.1 15 _ _ rfl; have := R505.1 16 _ _ rfl; have := R505.1 19 _ _ rfl; omega); have := R505.1 15 _ _ rfl; have := R505.1 16 _ _ rfl; have := R505.1 19 _ _ rfl; omega)
                              have K572 : aA M541 o0 (rv M0 o0 27) fr va := K528.same (sA_c I503 J544 (I503.up h_o0) (by decide +kernel))
                              have K573 : sA [7] M80 M541 o0 := K529.trans (sA_c I503 J544 (I503.up h_o0) (by decide +kernel))
                              have K574 : rC M541 o0 ((20 + v78).toNatClampNeg) := K530.add R505 f552 (by have := mz_nat9 (i := v78) (by have := R505.1 15 _ _ rfl; have := R505.1 16 _ _ rfl; have := R505.1 19 _ _ rfl; omega); have := R505.1 15 _ _ rfl; have := R505.1 16 _ _ rfl; have := R505.1 19 _ _ rfl; omega) i6_319.toInt.toNat (by have := R505.1 15 _ _ rfl; have := R505.1 16 _ _ rfl; have := R505.1 19 _ _ rfl; omega) (by have := mz_nat9 (i := i6_319) (by have := R505.1 15 _ _ rfl; have := R505.1 16 _ _ rfl; have := R505.1 19 _ _ rfl; omega); have := R505.1 15 _ _ rfl; have := R505.1 16 _ _ rfl; have := R505.1 19 _ _ rfl; omega) (by rw [show ((20 * (20 + v78)) + i6_319).toInt.toNat = ((20 * (20 + v78)) + i6_319).toNatClampNeg from by have := mz_nat9 (i := ((20 * (20 + v78)) + i6_319)) (by have := R505.1 15 _ _ rfl; have := R505.1 16 _ _ rfl; have := R505.1 19 _ _ rfl; omega); have := R505.1 15 _ _ rfl; have := R505.1 16 _ _ rfl; have := R505.1 19 _ _ rfl; omega]; omega) (sA_c I503 J544 (I503.up h_o0) (by decide)) (sF_c I503 J544 (I503.up h_o0) (by decide))
                              have := f552.2.2 v78.toNatClampNeg
                              rw [if_pos rfl] at this
                              clear z509 z510 z511 z513 z514 z515 z516 z517 z518 z519 z520 z521 z522 z524 z525
                              have q575 := J544.keep h_q0_319 (by decide) (K504 _ 13 6 _ (K466 _ 13 6 _ q320))
                              have t576 := J544.up t_a321
                              have q577 := J544.keep h_q0_319 (by decide) (K504 _ 13 7 _ (K466 _ 13 7 _ q388))
                              have t578 := J544.up t_a389
                              have q579 := J544.keep h_q0_319 (by decide) (K504 _ 13 38 _ (K466 _ 13 38 _ q455))
                              have t580 := J544.up t_a456
                              have q581 := J544.keep h_q0_319 (by decide) (K504 _ 13 8 _ (K466 _ 13 8 _ q457))
                              have t582 := J544.up t_a458
                              have q583 := J544.keep h_q0_319 (by decide) (K504 _ 13 39 _ q493)
                              have t584 := J544.up t_a494
                              have q585 := J544.keep h_q0_319 (by decide) (K504 _ 13 9 _ q495)
                              have t586 := J544.up t_a496
                              refine mv_iinc (v := (i6_319 + 1)) (lv' := [(6, .int (i6_319 + 1)), (7, .int ((20 * (20 + v78)) + i6_319)), (5, .int v78), (4, .int v87), (3, .int (20 + v78)), (0, .ref o0), (1, .int x1), (2, .int x2)]) d_TrustDeskModel_fund_268 rfl rfl (by decide) rfl ?_
                              refine mv_goto (tgt := 155) d_TrustDeskModel_fund_271 (by decide) ?_
                              have b587 : (i6_319 + 1 : Int32).toInt = (i6_319.toInt + 1) := mz_add2 rfl (by decide) (by have := R551.1 15 _ _ rfl; have := R551.1 16 _ _ rfl; have := R551.1 19 _ _ rfl; omega) (by have := R551.1 15 _ _ rfl; have := R551.1 16 _ _ rfl; have := R551.1 19 _ _ rfl; omega)
                              refine mv_locals (lv' := [(6, .int (i6_319 + 1)), (5, .int v78), (4, .int v87), (3, .int (20 + v78)), (0, .ref o0), (1, .int x1), (2, .int x2)]) (by intro q hq; simp only [List.mem_cons, List.not_mem_nil, or_false] at hq; rcases hq with rfl | rfl | rfl | rfl | rfl | rfl | rfl <;> rfl) ?_
                              have b588 : (i6_319 + 1).toInt = i6_319.toInt + 1 := mz_addn 1 1 (by decide) (by have := mz_lo i6_319; omega) (by have := mz_hi i6_319; omega)
                              exact (ih319 (i6_319 + 1) T543 M541 n542 I545 t553 (by have := R551.1 15 _ _ rfl; have := R551.1 16 _ _ rfl; have := R551.1 19 _ _ rfl; first | omega | decide | exact fun h9 => absurd (by decide) h9) (by have := R551.1 15 _ _ rfl; have := R551.1 16 _ _ rfl; have := R551.1 19 _ _ rfl; first | omega | decide | exact fun h9 => absurd (by decide) h9) (by have := R551.1 15 _ _ rfl; have := R551.1 16 _ _ rfl; have := R551.1 19 _ _ rfl; first | omega | decide | exact fun h9 => absurd (by decide) h9) (by have := R551.1 15 _ _ rfl; have := R551.1 16 _ _ rfl; have := R551.1 19 _ _ rfl; first | omega | decide | exact fun h9 => absurd (by decide) h9) (by have := R551.1 15 _ _ rfl; have := R551.1 16 _ _ rfl; have := R551.1 19 _ _ rfl; first | omega | decide | exact fun h9 => absurd (by decide) h9) (by have := R551.1 15 _ _ rfl; have := R551.1 16 _ _ rfl; have := R551.1 19 _ _ rfl; first | omega | decide | exact fun h9 => absurd (by decide) h9) (by have := R551.1 15 _ _ rfl; have := R551.1 16 _ _ rfl; have := R551.1 19 _ _ rfl; first | omega | decide | exact fun h9 => absurd (by decide) h9) (by rw [show (i6_319 + 1 : Int32).toInt.toNat = i6_319.toInt.toNat + 1 from by omega]; have := R551.1 15 _ _ rfl; have := R551.1 16 _ _ rfl; have := R551.1 19 _ _ rfl; omega) (by have := R551.1 15 _ _ rfl; have := R551.1 16 _ _ rfl; have := R551.1 19 _ _ rfl; first | omega | decide | exact fun h9 => absurd (by decide) h9) (by have := R551.1 15 _ _ rfl; have := R551.1 16 _ _ rfl; have := R551.1 19 _ _ rfl; first | omega | decide | exact fun h9 => absurd (by decide) h9) (by have := R551.1 15 _ _ rfl; have := R551.1 16 _ _ rfl; have := R551.1 19 _ _ rfl; first | omega | decide | exact fun h9 => absurd (by decide) h9) R551 K570 K571 K572 K573 K574 (by have := R551.1 15 _ _ rfl; have := R551.1 16 _ _ rfl; have := R551.1 19 _ _ rfl; omega))
                        · refine mv_aload_n d_TrustDeskModel_fund_187 rfl rfl ?_
                          obtain ⟨a590, q589, t_a590⟩ := tm_atR I_319 h_q0_319 (k := 36) rfl
                          refine tr_getK q589 d_TrustDeskModel_fund_188 f_TrustDeskModel_76_13 ?_
                          refine mv_iload d_TrustDeskModel_fund_191 rfl ?_
                          refine mv_dup2_11 d_TrustDeskModel_fund_193 rfl rfl ?_
                          refine tr_ialdR (o := o0) (k := 36) I_319 q589 t_a590 (by decide) d_TrustDeskModel_fund_194 (vp_in_iff.mpr (by have := kKR_319.1 15 _ _ rfl; have := kKR_319.1 16 _ _ rfl; have := kKR_319.1 19 _ _ rfl; omega)) (fun v591 e592 => ?_)
                          refine mv_aload_n d_TrustDeskModel_fund_195 rfl rfl ?_
                          obtain ⟨a594, q593, t_a594⟩ := tm_atR I_319 h_q0_319 (k := 8) rfl
                          refine tr_getK q593 d_TrustDeskModel_fund_196 f_TrustDeskModel_29_13 ?_
                          refine mv_iload d_TrustDeskModel_fund_199 rfl ?_
                          have b595 : (20 + v78 : Int32).toInt = (20 + v78.toInt) := mz_add2 (by decide) rfl (by have := kKR_319.1 15 _ _ rfl; have := kKR_319.1 16 _ _ rfl; have := kKR_319.1 19 _ _ rfl; omega) (by have := kKR_319.1 15 _ _ rfl; have := kKR_319.1 16 _ _ rfl; have := kKR_319.1 19 _ _ rfl; omega)
                          have b596 : (20 * (20 + v78) : Int32).toInt = (20 * (20 + v78.toInt)) := mz_mul2 (by decide) b595 (by have := kKR_319.1 15 _ _ rfl; have := kKR_319.1 16 _ _ rfl; have := kKR_319.1 19 _ _ rfl; omega) (by have := kKR_319.1 15 _ _ rfl; have := kKR_319.1 16 _ _ rfl; have := kKR_319.1 19 _ _ rfl; omega)
                          have b597 : ((20 * (20 + v78)) + i6_319 : Int32).toInt = ((20 * (20 + v78.toInt)) + i6_319.toInt) := mz_add2 b596 rfl (by have := kKR_319.1 15 _ _ rfl; have := kKR_319.1 16 _ _ rfl; have := kKR_319.1 19 _ _ rfl; omega) (by have := kKR_319.1 15 _ _ rfl; have := kKR_319.1 16 _ _ rfl; have := kKR_319.1 19 _ _ rfl; omega)
                          refine tr_ialdR (o := o0) (k := 8) I_319 q593 t_a594 (by decide) d_TrustDeskModel_fund_201 (vp_in_iff.mpr (by have := kKR_319.1 15 _ _ rfl; have := kKR_319.1 16 _ _ rfl; have := kKR_319.1 19 _ _ rfl; omega)) (fun v598 e599 => ?_)
                          have := kKR_319.a (k := 8) rfl (((20 * (20 + v78)) + i6_319) : Int32).toNatClampNeg
                          refine mv_ior d_TrustDeskModel_fund_202 ?_
                          refine tr_iastR (k := 36) I_319 kKR_319 (I_319.up h_o0) q589 t_a590 (by decide) (by decide) (fun lo hi h => by cases h) (Or.inl (by decide)) d_TrustDeskModel_fund_203 (vp_in_iff.mpr (by have := kKR_319.1 15 _ _ rfl; have := kKR_319.1 16 _ _ rfl; have := kKR_319.1 19 _ _ rfl; omega)) (fun M600 I601 K602 R603 E604 A605 V606 => ?_)
                          have z607 := (V606 15)
                          have z608 := (V606 16)
                          have z609 := (V606 17)
                          have z610 := (V606 19)
                          have z611 := (V606 22)
                          have z612 := (V606 24)
                          have z613 := (V606 27)
                          have z614 := (V606 32)
                          have z615 := (V606 49)
                          have z616 := (V606 14)
                          have z617 := (V606 21)
                          have z618 := (A605 5 (by decide) rfl 44)
                          have z619 := (A605 6 (by decide) rfl 44)
                          have z620 := (A605 6 (by decide) rfl ((20 + v78).toNatClampNeg))
                          have z621 := (A605 43 (by decide) rfl v78.toNatClampNeg)
                          have z622 := (A605 37 (by decide) rfl v78.toNatClampNeg)
                          have z623 := (A605 7 (by decide) rfl (((20 * (20 + v78)) + i6_319).toNatClampNeg)).trans z395
                          have K624 : rP M600 o0 := kKP_319.same (sA_a A605 (by decide +kernel)) (sF_a V606)
                          have K625 : rB M600 o0 v78.toNatClampNeg := kKB_319.same (sA_a A605 (by decide +kernel)) (sF_a V606)
                          have K626 : aA M600 o0 (rv M0 o0 27) fr va := kKAA_319.same (sA_a A605 (by decide +kernel))
                          have K627 : sA [7] M80 M600 o0 := kKY_319.trans (sA_a A605 (by decide +kernel))
                          have K628 : rC M600 o0 ((20 + v78).toNatClampNeg) := kKC_319.same (sA_a A605 (by decide +kernel)) (sF_a V606)
                          clear z395
                          refine mv_aload_n d_TrustDeskModel_fund_204 rfl rfl ?_
                          refine tr_getK (k := 7) (K602 _ 13 7 _ q388) d_TrustDeskModel_fund_205 f_TrustDeskModel_26_13 ?_
                          refine mv_iload d_TrustDeskModel_fund_208 rfl ?_
                          have b629 : (20 + v78 : Int32).toInt = (20 + v78.toInt) := mz_add2 (by decide) rfl (by have := R603.1 15 _ _ rfl; have := R603.1 16 _ _ rfl; have := R603.1 19 _ _ rfl; omega) (by have := R603.1 15 _ _ rfl; have := R603.1 16 _ _ rfl; have := R603.1 19 _ _ rfl; omega)
                          have b630 : (20 * (20 + v78) : Int32).toInt = (20 * (20 + v78.toInt)) := mz_mul2 (by decide) b629 (by have := R603.1 15 _ _ rfl; have := R603.1 16 _ _ rfl; have := R603.1 19 _ _ rfl; omega) (by have := R603.1 15 _ _ rfl; have := R603.1 16 _ _ rfl; have := R603.1 19 _ _ rfl; omega)
                          have b631 : ((20 * (20 + v78)) + i6_319 : Int32).toInt = ((20 * (20 + v78.toInt)) + i6_319.toInt) := mz_add2 b630 rfl (by have := R603.1 15 _ _ rfl; have := R603.1 16 _ _ rfl; have := R603.1 19 _ _ rfl; omega) (by have := R603.1 15 _ _ rfl; have := R603.1 16 _ _ rfl; have := R603.1 19 _ _ rfl; omega)
                          refine tr_ialdR (o := o0) (k := 7) I601 (K602 _ 13 7 _ q388) t_a389 (by decide) d_TrustDeskModel_fund_210 (vp_in_iff.mpr (by have := R603.1 15 _ _ rfl; have := R603.1 16 _ _ rfl; have := R603.1 19 _ _ rfl; omega)) (fun v632 e633 => ?_)
                          have : v632.toInt = _ := Eq.trans e633 z623
                          have h634 : ((20 * (20 + v78)) + i6_319).toNatClampNeg = 20 * (20 + v78).toNatClampNeg + i6_319.toInt.toNat := by have := mz_nat9 (i := ((20 * (20 + v78)) + i6_319)) (by have := R603.1 15 _ _ rfl; have := R603.1 16 _ _ rfl; have := R603.1 19 _ _ rfl; omega); have := mz_nat9 (i := (20 + v78)) (by have := R603.1 15 _ _ rfl; have := R603.1 16 _ _ rfl; have := R603.1 19 _ _ rfl; omega); have := R603.1 15 _ _ rfl; have := R603.1 16 _ _ rfl; have := R603.1 19 _ _ rfl; omega
                          have : v632.toInt = ra M80 o0 7 (20 * (20 + v78).toNatClampNeg + i6_319.toInt.toNat) := by have e9 := K627 7 rfl; rw [← e9, e633, h634]
                          refine mv_bipush (v := 9) d_TrustDeskModel_fund_211 (by decide) ?_
                          have := mz_hi v632
                          refine mv_icmp_neZ (tgt := 244) (a := v632.toInt) (b := 9) d_TrustDeskModel_fund_213 (by decide) rfl (by decide) (fun b635 => ?_) (fun b635 => absurd b635 (by omega))
                          refine mv_aload_n d_TrustDeskModel_fund_244 rfl rfl ?_
                          refine tr_getK (k := 7) (K602 _ 13 7 _ q388) d_TrustDeskModel_fund_245 f_TrustDeskModel_26_13 ?_
                          refine mv_iload d_TrustDeskModel_fund_248 rfl ?_
                          have b636 : (20 + v78 : Int32).toInt = (20 + v78.toInt) := mz_add2 (by decide) rfl (by have := R603.1 15 _ _ rfl; have := R603.1 16 _ _ rfl; have := R603.1 19 _ _ rfl; omega) (by have := R603.1 15 _ _ rfl; have := R603.1 16 _ _ rfl; have := R603.1 19 _ _ rfl; omega)
                          have b637 : (20 * (20 + v78) : Int32).toInt = (20 * (20 + v78.toInt)) := mz_mul2 (by decide) b636 (by have := R603.1 15 _ _ rfl; have := R603.1 16 _ _ rfl; have := R603.1 19 _ _ rfl; omega) (by have := R603.1 15 _ _ rfl; have := R603.1 16 _ _ rfl; have := R603.1 19 _ _ rfl; omega)
                          have b638 : ((20 * (20 + v78)) + i6_319 : Int32).toInt = ((20 * (20 + v78.toInt)) + i6_319.toInt) := mz_add2 b637 rfl (by have := R603.1 15 _ _ rfl; have := R603.1 16 _ _ rfl; have := R603.1 19 _ _ rfl; omega) (by have := R603.1 15 _ _ rfl; have := R603.1 16 _ _ rfl; have := R603.1 19 _ _ rfl; omega)
                          refine tr_ialdR (o := o0) (k := 7) I601 (K602 _ 13 7 _ q388) t_a389 (by decide) d_TrustDeskModel_fund_250 (vp_in_iff.mpr (by have := R603.1 15 _ _ rfl; have := R603.1 16 _ _ rfl; have := R603.1 19 _ _ rfl; omega)) (fun v639 e640 => ?_)
                          have : v639.toInt = _ := Eq.trans e640 z623
                          have h641 : ((20 * (20 + v78)) + i6_319).toNatClampNeg = 20 * (20 + v78).toNatClampNeg + i6_319.toInt.toNat := by have := mz_nat9 (i := ((20 * (20 + v78)) + i6_319)) (by have := R603.1 15 _ _ rfl; have := R603.1 16 _ _ rfl; have := R603.1 19 _ _ rfl; omega); have := mz_nat9 (i := (20 + v78)) (by have := R603.1 15 _ _ rfl; have := R603.1 16 _ _ rfl; have := R603.1 19 _ _ rfl; omega); have := R603.1 15 _ _ rfl; have := R603.1 16 _ _ rfl; have := R603.1 19 _ _ rfl; omega
                          have : v639.toInt = ra M80 o0 7 (20 * (20 + v78).toNatClampNeg + i6_319.toInt.toNat) := by have e9 := K627 7 rfl; rw [← e9, e640, h641]
                          refine mv_bipush (v := 8) d_TrustDeskModel_fund_251 (by decide) ?_
                          have := mz_hi v639
                          refine mv_icmp_neZ (tgt := 268) (a := v639.toInt) (b := 8) d_TrustDeskModel_fund_253 (by decide) rfl (by decide) (fun b642 => ?_) (fun b642 => absurd b642 (by omega))
                          refine mv_iinc (v := (i6_319 + 1)) (lv' := [(6, .int (i6_319 + 1)), (7, .int ((20 * (20 + v78)) + i6_319)), (5, .int v78), (4, .int v87), (3, .int (20 + v78)), (0, .ref o0), (1, .int x1), (2, .int x2)]) d_TrustDeskModel_fund_268 rfl rfl (by decide) rfl ?_
                          refine mv_goto (tgt := 155) d_TrustDeskModel_fund_271 (by decide) ?_
                          have b643 : (i6_319 + 1 : Int32).toInt = (i6_319.toInt + 1) := mz_add2 rfl (by decide) (by have := R603.1 15 _ _ rfl; have := R603.1 16 _ _ rfl; have := R603.1 19 _ _ rfl; omega) (by have := R603.1 15 _ _ rfl; have := R603.1 16 _ _ rfl; have := R603.1 19 _ _ rfl; omega)
                          refine mv_locals (lv' := [(6, .int (i6_319 + 1)), (5, .int v78), (4, .int v87), (3, .int (20 + v78)), (0, .ref o0), (1, .int x1), (2, .int x2)]) (by intro q hq; simp only [List.mem_cons, List.not_mem_nil, or_false] at hq; rcases hq with rfl | rfl | rfl | rfl | rfl | rfl | rfl <;> rfl) ?_
                          have b644 : (i6_319 + 1).toInt = i6_319.toInt + 1 := mz_addn 1 1 (by decide) (by have := mz_lo i6_319; omega) (by have := mz_hi i6_319; omega)
                          exact (ih319 (i6_319 + 1) T_319 M600 n_319 I601 h_q0_319 (by have := R603.1 15 _ _ rfl; have := R603.1 16 _ _ rfl; have := R603.1 19 _ _ rfl; first | omega | decide | exact fun h9 => absurd (by decide) h9) (by have := R603.1 15 _ _ rfl; have := R603.1 16 _ _ rfl; have := R603.1 19 _ _ rfl; first | omega | decide | exact fun h9 => absurd (by decide) h9) (by have := R603.1 15 _ _ rfl; have := R603.1 16 _ _ rfl; have := R603.1 19 _ _ rfl; first | omega | decide | exact fun h9 => absurd (by decide) h9) (by have := R603.1 15 _ _ rfl; have := R603.1 16 _ _ rfl; have := R603.1 19 _ _ rfl; first | omega | decide | exact fun h9 => absurd (by decide) h9) (by have := R603.1 15 _ _ rfl; have := R603.1 16 _ _ rfl; have := R603.1 19 _ _ rfl; first | omega | decide | exact fun h9 => absurd (by decide) h9) (by have := R603.1 15 _ _ rfl; have := R603.1 16 _ _ rfl; have := R603.1 19 _ _ rfl; first | omega | decide | exact fun h9 => absurd (by decide) h9) (by have := R603.1 15 _ _ rfl; have := R603.1 16 _ _ rfl; have := R603.1 19 _ _ rfl; first | omega | decide | exact fun h9 => absurd (by decide) h9) (by rw [show (i6_319 + 1 : Int32).toInt.toNat = i6_319.toInt.toNat + 1 from by omega]; have := R603.1 15 _ _ rfl; have := R603.1 16 _ _ rfl; have := R603.1 19 _ _ rfl; omega) (by have := R603.1 15 _ _ rfl; have := R603.1 16 _ _ rfl; have := R603.1 19 _ _ rfl; first | omega | decide | exact fun h9 => absurd (by decide) h9) (by have := R603.1 15 _ _ rfl; have := R603.1 16 _ _ rfl; have := R603.1 19 _ _ rfl; first | omega | decide | exact fun h9 => absurd (by decide) h9) (by have := R603.1 15 _ _ rfl; have := R603.1 16 _ _ rfl; have := R603.1 19 _ _ rfl; first | omega | decide | exact fun h9 => absurd (by decide) h9) R603 K624 K625 K626 K627 K628 (by have := R603.1 15 _ _ rfl; have := R603.1 16 _ _ rfl; have := R603.1 19 _ _ rfl; omega))
                  have : (0 : Int32).toInt = 0 := by decide
                  have K645 : rB M291 o0 v78.toNatClampNeg := K315.to
                  exact mv_less (Nat.zero_le _) (Nat.zero_le _) (L155_319 4294967296 0 T82 M291 n81 I292 t95 (by have := R294.1 15 _ _ rfl; have := R294.1 16 _ _ rfl; have := R294.1 19 _ _ rfl; first | omega | decide | exact fun h9 => absurd (by decide) h9) (by have := R294.1 15 _ _ rfl; have := R294.1 16 _ _ rfl; have := R294.1 19 _ _ rfl; first | omega | decide | exact fun h9 => absurd (by decide) h9) (by have := R294.1 15 _ _ rfl; have := R294.1 16 _ _ rfl; have := R294.1 19 _ _ rfl; first | omega | decide | exact fun h9 => absurd (by decide) h9) (by have := R294.1 15 _ _ rfl; have := R294.1 16 _ _ rfl; have := R294.1 19 _ _ rfl; first | omega | decide | exact fun h9 => absurd (by decide) h9) (by have := R294.1 15 _ _ rfl; have := R294.1 16 _ _ rfl; have := R294.1 19 _ _ rfl; first | omega | decide | exact fun h9 => absurd (by decide) h9) (by have := R294.1 15 _ _ rfl; have := R294.1 16 _ _ rfl; have := R294.1 19 _ _ rfl; first | omega | decide | exact fun h9 => absurd (by decide) h9) (by have := R294.1 15 _ _ rfl; have := R294.1 16 _ _ rfl; have := R294.1 19 _ _ rfl; first | omega | decide | exact fun h9 => absurd (by decide) h9) (by show _ ≤ kc _ _ _ 0; show _ ≤ (0 : Int); have := R294.1 15 _ _ rfl; have := R294.1 16 _ _ rfl; have := R294.1 19 _ _ rfl; omega) (by have := R294.1 15 _ _ rfl; have := R294.1 16 _ _ rfl; have := R294.1 19 _ _ rfl; first | omega | decide | exact fun h9 => absurd (by decide) h9) (by have := R294.1 15 _ _ rfl; have := R294.1 16 _ _ rfl; have := R294.1 19 _ _ rfl; first | omega | decide | exact fun h9 => absurd (by decide) h9) (by have := R294.1 15 _ _ rfl; have := R294.1 16 _ _ rfl; have := R294.1 19 _ _ rfl; first | omega | decide | exact fun h9 => absurd (by decide) h9) R294 K314 K645 K316 K317 K318 (by show (2147483647 - (0 : Int) : Int) < _; decide))
                · have K646 : rC M80 o0 44 := K109.1 (by omega)
                  obtain ⟨g647, g648, g649⟩ := (Im.o g112).2 (by omega)
                  refine mv_iload d_TrustDeskModel_fund_86 rfl ?_
                  exact mv_iret d_TrustDeskModel_fund_88 rfl (by first | rfl | decide) ⟨_, I84, _, rfl, R88, K646, K106, K107, (by have := R88.1 15 _ _ rfl; have := R88.1 16 _ _ rfl; have := R88.1 19 _ _ rfl; omega), (Or.inr ⟨Im.o hG, by omega, Or.inr ⟨by omega, by omega, by omega, by omega⟩⟩), K108⟩
            have L45_650 : ∀ (k : Nat) (T_650 : tm_H) (M_650 : mj_M) (n_650 : Nat), tm_I tm_FT (tm_in w_TrustDeskModel_fund_a) x9 T0 M0 n0 T_650 M_650 n_650 → T_650 o0 = some (0, 13, 0) → (rv M_650 o0 19 = 0 → rv M_650 o0 22 = 0) → rv M_650 o0 27 = rv M0 o0 27 → rv M_650 o0 32 = rv M0 o0 32 → rv M_650 o0 49 = rv M0 o0 49 → ra M_650 o0 6 44 ≤ 12 → (rI M_650 o0) → (rC M_650 o0 44) → (rP M_650 o0) → (rB M_650 o0 12) → (aA M_650 o0 (rv M0 o0 27) fr va) → (rW M_650 o0) → (∃ (c1 : Nat) (N1 : List (Nat × Nat)) (s1 : p_S), pO M_650 o0 pb pn 10 s1 ∧ (s1.1 = 0 → ra M_650 o0 6 44 = (c1 : Int)) ∧ (s1.1 = 0 → pN M_650 o0 pn N1) ∧ p_lp pn (p_de1 pb pn 10) (c1, N1, s1) = p_dee pb pn) → 5 * (401 - rv M_650 o0 16) - rv M_650 o0 19 < (k : Int) → mj_V g l kY_TrustDeskModel_fund (d + 27) 45 [(0, .ref o0), (1, .int x1), (2, .int x2)] [] M_650 n_650 0 0 (tm_Q tm_FT (tm_in w_TrustDeskModel_fund_a) x9 T0 M0 n0 (fun r _ M => ∃ v : Int32, r = some (.int v) ∧ rI M o0 ∧ (rC M o0 44) ∧ (rP M o0) ∧ (rB M o0 12) ∧ (rv M0 o0 32 ≤ rv M o0 32) ∧ ((v.toInt = -1 ∧ ¬ (0 ≤ x1.toInt ∧ x1.toInt ≤ 999 ∧ 0 ≤ x2.toInt ∧ x2.toInt ≤ 99999 ∧ rv M0 o0 32 ≠ 12) ∧ rv M o0 14 = rv M0 o0 14 ∧ rv M o0 21 = rv M0 o0 21 ∧ rv M o0 32 = rv M0 o0 32) ∨ ((0 ≤ x1.toInt ∧ x1.toInt ≤ 999 ∧ 0 ≤ x2.toInt ∧ x2.toInt ≤ 99999 ∧ rv M0 o0 32 ≠ 12) ∧ rv M o0 14 = 0 ∧ (((p_dee pb pn).2.2.1 = 0 ∧ v.toInt = rv M0 o0 32 ∧ rv M o0 21 = -1 ∧ rv M o0 32 = rv M0 o0 32 + 1) ∨ ((p_dee pb pn).2.2.1 ≠ 0 ∧ v.toInt = -1 - (p_dee pb pn).2.2.1 ∧ rv M o0 21 = ((p_dee pb pn).2.2.2.1 : Int) ∧ rv M o0 32 = rv M0 o0 32)))) ∧ (aA M o0 (rv M0 o0 27) fr va))) := by
              intro k650
              induction k650 with
              | zero =>
                intro T_650 M_650 n_650 I_650 h_q0_650 iv0_650 iv1_650 iv2_650 iv3_650 iv4_650 kKR_650 kKC_650 kKP_650 kKB_650 kKAA_650 kKW_650 kKT9_650 hk650
                have := kKR_650.1 15 _ _ rfl
                have := kKR_650.1 16 _ _ rfl
                have := kKR_650.1 19 _ _ rfl
                exfalso; omega
              | succ k650 ih650 =>
                intro T_650 M_650 n_650 I_650 h_q0_650 iv0_650 iv1_650 iv2_650 iv3_650 iv4_650 kKR_650 kKC_650 kKP_650 kKB_650 kKAA_650 kKW_650 kKT9_650 hk650
                obtain ⟨c651, N656, s652, S653, h654, h657, e655⟩ := kKT9_650
                replace h657 := Im.i h657
                replace h654 := Im.i h654
                have := S653.w
                refine mv_aload_n d_TrustDeskModel_fund_45 rfl rfl ?_
                obtain ⟨_, b658, -⟩ := I_650.1 _ _ h_q0_650
                refine mv_callV (kc1 := 0) (ks1 := 0) (kc' := 0) (ks' := 0) (As := []) (st9 := [.ref o0]) d_TrustDeskModel_fund_46 lV_TrustDeskModel_230 b658 rfl (mj_enter (by decide) (Nat.le_of_ble_eq_true rfl) ?_) rfl (Nat.le_of_ble_eq_true rfl) (Nat.le_of_ble_eq_true rfl) (Nat.le_of_ble_eq_true rfl) (hst := rfl) (fun _ _ _ h => h)
                refine mv_aload_n d_TrustDeskModel_isWell_0 rfl rfl ?_
                obtain ⟨v660, q659⟩ := tm_atI I_650 h_q0_650 (k := 19) rfl
                refine tr_getK q659 d_TrustDeskModel_isWell_1 f_TrustDeskModel_224_13 ?_
                have := kKR_650.f (k := 19) q659 rfl
                have := tm_rv q659
                have := mz_hi v660
                refine mv_if_neZ (tgt := 11) (a := v660.toInt) d_TrustDeskModel_isWell_4 (by decide) rfl (fun b661 => ?_) (fun b661 => ?_)
                · refine mv_iconst (v := 0) d_TrustDeskModel_isWell_11 (by decide) ?_
                  refine mv_iret d_TrustDeskModel_isWell_12 rfl (by decide) ?_
                  refine mv_if_eq_t (tgt := 66) d_TrustDeskModel_fund_49 (by decide) (by decide) ?_
                  have e663 := (by exact e655.symm.trans (p_lp_stop (show (p_de1 pb pn 10) (c651, N656, s652) = (c651, N656, s652) from if_neg (fun h9 => by have h8 : s652.1 = 0 := h9.1; have h7 : p_ki pb pn s652.2.2 ≠ 0 := h9.2; omega))))
                  have T662 : ∃ (c1 : Nat) (N1 : List (Nat × Nat)) (s1 : p_S), pO M_650 o0 pb pn 10 s1 ∧ (s1.1 = 0 → ra M_650 o0 6 44 = (c1 : Int)) ∧ (s1.1 = 0 → pN M_650 o0 pn N1) ∧ (c1, N1, s1) = p_dee pb pn := ⟨c651, N656, s652, S653, (fun z9 => by have := (Im.o h654) (by omega); omega), (fun z9 => (Im.o h657) z9), e663.symm⟩
                  exact C66_69 T_650 M_650 n_650 I_650 h_q0_650 (fun w9 => by skip; omega) (by have := kKR_650.1 15 _ _ rfl; have := kKR_650.1 16 _ _ rfl; have := kKR_650.1 19 _ _ rfl; first | omega | decide | exact fun h9 => absurd (by decide) h9) (by have := kKR_650.1 15 _ _ rfl; have := kKR_650.1 16 _ _ rfl; have := kKR_650.1 19 _ _ rfl; first | omega | decide | exact fun h9 => absurd (by decide) h9) (by have := kKR_650.1 15 _ _ rfl; have := kKR_650.1 16 _ _ rfl; have := kKR_650.1 19 _ _ rfl; first | omega | decide | exact fun h9 => absurd (by decide) h9) (by have := kKR_650.1 15 _ _ rfl; have := kKR_650.1 16 _ _ rfl; have := kKR_650.1 19 _ _ rfl; first | omega | decide | exact fun h9 => absurd (by decide) h9) kKR_650 kKC_650 kKP_650 kKB_650 kKAA_650 kKW_650 T662
                · refine mv_iconst (v := 1) d_TrustDeskModel_isWell_7 (by decide) ?_
                  refine mv_goto (tgt := 12) d_TrustDeskModel_isWell_8 (by decide) ?_
                  refine mv_iret d_TrustDeskModel_isWell_12 rfl (by decide) ?_
                  refine mv_if_eq_f (tgt := 66) d_TrustDeskModel_fund_49 (by decide) (by decide) ?_
                  refine mv_aload_n d_TrustDeskModel_fund_52 rfl rfl ?_
                  obtain ⟨v665, q664⟩ := tm_atI I_650 h_q0_650 (k := 17) rfl
                  refine tr_getK q664 d_TrustDeskModel_fund_53 f_TrustDeskModel_198_13 ?_
                  have := tm_rv q664
                  have := mz_hi v665
                  refine mv_if_eqZ (tgt := 66) (a := v665.toInt) d_TrustDeskModel_fund_56 (by decide) rfl (fun b666 => ?_) (fun b666 => ?_)
                  · have e668 := (by have := S653.s0 (by omega) (by omega); exact e655.symm.trans (p_lp_stop (show (p_de1 pb pn 10) (c651, N656, s652) = (c651, N656, s652) from if_neg (fun h9 => by have h8 : s652.1 = 0 := h9.1; have h7 : p_ki pb pn s652.2.2 ≠ 0 := h9.2; omega))))
                    have T667 : ∃ (c1 : Nat) (N1 : List (Nat × Nat)) (s1 : p_S), pO M_650 o0 pb pn 10 s1 ∧ (s1.1 = 0 → ra M_650 o0 6 44 = (c1 : Int)) ∧ (s1.1 = 0 → pN M_650 o0 pn N1) ∧ (c1, N1, s1) = p_dee pb pn := ⟨c651, N656, s652, S653, (fun z9 => by have := (Im.o h654) (by omega); omega), (fun z9 => (Im.o h657) z9), e668.symm⟩
                    exact C66_69 T_650 M_650 n_650 I_650 h_q0_650 (fun w9 => by skip; omega) (by have := kKR_650.1 15 _ _ rfl; have := kKR_650.1 16 _ _ rfl; have := kKR_650.1 19 _ _ rfl; first | omega | decide | exact fun h9 => absurd (by decide) h9) (by have := kKR_650.1 15 _ _ rfl; have := kKR_650.1 16 _ _ rfl; have := kKR_650.1 19 _ _ rfl; first | omega | decide | exact fun h9 => absurd (by decide) h9) (by have := kKR_650.1 15 _ _ rfl; have := kKR_650.1 16 _ _ rfl; have := kKR_650.1 19 _ _ rfl; first | omega | decide | exact fun h9 => absurd (by decide) h9) (by have := kKR_650.1 15 _ _ rfl; have := kKR_650.1 16 _ _ rfl; have := kKR_650.1 19 _ _ rfl; first | omega | decide | exact fun h9 => absurd (by decide) h9) kKR_650 kKC_650 kKP_650 kKB_650 kKAA_650 kKW_650 T667
                  · refine mv_aload_n d_TrustDeskModel_fund_59 rfl rfl ?_
                    obtain ⟨_, b675, -⟩ := I_650.1 _ _ h_q0_650
                    refine mv_callV (kc' := 0) (ks' := 0) (As := []) (st9 := [.ref o0]) d_TrustDeskModel_fund_60 lV_TrustDeskModel_425 b675 rfl (tc_TrustDeskModel_readClause_a (d := d) (x9 := x9) (o0 := o0) h_q0_650 kKR_650 kKW_650 (by have := kKR_650.1 15 _ _ rfl; have := kKR_650.1 16 _ _ rfl; have := kKR_650.1 19 _ _ rfl; omega) (by have := kKR_650.1 15 _ _ rfl; have := kKR_650.1 16 _ _ rfl; have := kKR_650.1 19 _ _ rfl; omega) (by have := kKR_650.1 15 _ _ rfl; have := kKR_650.1 16 _ _ rfl; have := kKR_650.1 19 _ _ rfl; omega) (by have := kKR_650.1 15 _ _ rfl; have := kKR_650.1 16 _ _ rfl; have := kKR_650.1 19 _ _ rfl; omega) S653 (pc9 := c651) ((Im.o h654) (by omega)) ((Im.o h657) (by have := kKR_650.1 15 _ _ rfl; have := kKR_650.1 16 _ _ rfl; have := kKR_650.1 19 _ _ rfl; omega)) I_650.start) rfl (Nat.le_of_ble_eq_true rfl) (Nat.le_of_ble_eq_true rfl) (Nat.le_of_ble_eq_true rfl) (hst := rfl) (fun b669r M670 n671 b669 => ?_)
                    obtain ⟨T672, J673, rfl, R676, f677, f678, f679, f680, f681, f682, f683, f684, f685, f686⟩ := b669
                    have I674 := I_650.call J673 (tm_sub (by decide)) (Or.inl rfl)
                    have t687 := J673.up h_q0_650
                    replace f680 := Im.i f680
                    replace f681 := Im.i f681
                    replace f684 := Im.i f684
                    replace f685 := Im.i f685
                    have z688 := (rv_c I_650 J673 (I_650.up h_o0) (k := 27) rfl)
                    have z689 := (rv_c I_650 J673 (I_650.up h_o0) (k := 32) rfl)
                    have z690 := (rv_c I_650 J673 (I_650.up h_o0) (k := 49) rfl)
                    have z691 := (rv_c I_650 J673 (I_650.up h_o0) (k := 14) rfl)
                    have z692 := (rv_c I_650 J673 (I_650.up h_o0) (k := 21) rfl)
                    have K693 : rC M670 o0 44 := kKC_650.rO kKR_650 f678 (sA_c I_650 J673 (I_650.up h_o0) (by decide)) (sF_c I_650 J673 (I_650.up h_o0) (by decide))
                    have K694 : rP M670 o0 := kKP_650.same (sA_c I_650 J673 (I_650.up h_o0) (by decide +kernel)) (sF_c I_650 J673 (I_650.up h_o0) (by decide +kernel))
                    have K695 : rB M670 o0 12 := kKB_650.same (sA_c I_650 J673 (I_650.up h_o0) (by decide +kernel)) (sF_c I_650 J673 (I_650.up h_o0) (by decide +kernel))
                    have K696 : aA M670 o0 (rv M0 o0 27) fr va := kKAA_650.rd kKR_650 hA20 f678 f686 (sA_c I_650 J673 (I_650.up h_o0) (by decide +kernel))
                    have K697 : rW M670 o0 := f677
                    obtain ⟨s698, e699⟩ : ∃ s9 : p_S, (p_cl pb pn 10 (c651, N656, s652)).2 = s9 := ⟨_, rfl⟩
                    rw [e699] at f683
                    have := f683.w
                    refine mv_goto (tgt := 45) d_TrustDeskModel_fund_63 (by decide) ?_
                    have T700 : ∃ (c1 : Nat) (N1 : List (Nat × Nat)) (s1 : p_S), pO M670 o0 pb pn 10 s1 ∧ (s1.1 = 0 → ra M670 o0 6 44 = (c1 : Int)) ∧ (s1.1 = 0 → pN M670 o0 pn N1) ∧ p_lp pn (p_de1 pb pn 10) (c1, N1, s1) = p_dee pb pn := ⟨c651 + 1, (p_cl pb pn 10 (c651, N656, s652)).1, s698, f683, (fun z9 => by have w9 : rv M670 o0 19 = 0 := (by omega); have u91 : rv M670 o0 19 = 0 := (by omega); have := f680.o u91; have := f684.o u91; have := f685.o u91; have := (Im.o f684) w9; omega), (fun z9 => (Im.o f685) (by omega)), (by have st : p_de1 pb pn 10 (c651, N656, s652) = (c651 + 1, (p_cl pb pn 10 (c651, N656, s652)).1, s698) := (by have := S653.n0 (by omega) (by omega); rw [show p_de1 pb pn 10 (c651, N656, s652) = (c651 + 1, p_cl pb pn 10 (c651, N656, s652)) from if_pos ⟨(by show s652.1 = 0; omega), (by show p_ki pb pn s652.2.2 ≠ 0; omega)⟩]; exact Prod.ext rfl (Prod.ext rfl e699)); rw [← st, p_P.go p_de1_P (c651, N656, s652)]; exact e655)⟩
                    exact (ih650 T672 M670 n671 I674 t687 (fun w9 => by have u91 : rv M670 o0 19 = 0 := (by omega); have := f680.o u91; have := f684.o u91; have := f685.o u91; omega) (by have := R676.1 15 _ _ rfl; have := R676.1 16 _ _ rfl; have := R676.1 19 _ _ rfl; first | omega | decide | exact fun h9 => absurd (by decide) h9) (by have := R676.1 15 _ _ rfl; have := R676.1 16 _ _ rfl; have := R676.1 19 _ _ rfl; first | omega | decide | exact fun h9 => absurd (by decide) h9) (by have := R676.1 15 _ _ rfl; have := R676.1 16 _ _ rfl; have := R676.1 19 _ _ rfl; first | omega | decide | exact fun h9 => absurd (by decide) h9) (by have := R676.1 15 _ _ rfl; have := R676.1 16 _ _ rfl; have := R676.1 19 _ _ rfl; first | omega | decide | exact fun h9 => absurd (by decide) h9) R676 K693 K694 K695 K696 K697 T700 (by have := R676.1 15 _ _ rfl; have := R676.1 16 _ _ rfl; have := R676.1 19 _ _ rfl; exact Classical.byCases (fun w9 : rv M670 o0 19 = 0 => by have u91 : rv M670 o0 19 = 0 := (by omega); have := f680.o u91; have := f684.o u91; have := f685.o u91; omega) (fun w9 : ¬ rv M670 o0 19 = 0 => by omega)))
            have T701 : ∃ (c1 : Nat) (N1 : List (Nat × Nat)) (s1 : p_S), pO M38 o0 pb pn 10 s1 ∧ (s1.1 = 0 → ra M38 o0 6 44 = (c1 : Int)) ∧ (s1.1 = 0 → pN M38 o0 pn N1) ∧ p_lp pn (p_de1 pb pn 10) (c1, N1, s1) = p_dee pb pn := ⟨0, [], s65, f51, (fun _ => by have := f50; omega), (fun _ => pN.nil (by have := f48; omega)), (by rw [← e66]; rfl)⟩
            exact mv_less (Nat.zero_le _) (Nat.zero_le _) (L45_650 4294967296 T40 M38 n39 I42 t53 (fun w9 => by skip; omega) (by have := R44.1 15 _ _ rfl; have := R44.1 16 _ _ rfl; have := R44.1 19 _ _ rfl; first | omega | decide | exact fun h9 => absurd (by decide) h9) (by have := R44.1 15 _ _ rfl; have := R44.1 16 _ _ rfl; have := R44.1 19 _ _ rfl; first | omega | decide | exact fun h9 => absurd (by decide) h9) (by have := R44.1 15 _ _ rfl; have := R44.1 16 _ _ rfl; have := R44.1 19 _ _ rfl; first | omega | decide | exact fun h9 => absurd (by decide) h9) (by have := R44.1 15 _ _ rfl; have := R44.1 16 _ _ rfl; have := R44.1 19 _ _ rfl; first | omega | decide | exact fun h9 => absurd (by decide) h9) R44 K59 K60 K61 K62 K64 T701 (by have := R44.1 15 _ _ rfl; have := R44.1 16 _ _ rfl; have := R44.1 19 _ _ rfl; omega))
          · refine mv_iconst (v := (-1)) d_TrustDeskModel_fund_38 (by decide) ?_
            exact mv_iret d_TrustDeskModel_fund_39 rfl (by first | rfl | decide) ⟨_, I6, _, rfl, R9, K25, K26, K27, (by have := R9.1 15 _ _ rfl; have := R9.1 16 _ _ rfl; have := R9.1 19 _ _ rfl; omega), (Or.inl ⟨by decide, by omega, z21, z22, z19⟩), K28⟩
