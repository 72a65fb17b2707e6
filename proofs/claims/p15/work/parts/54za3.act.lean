def w_TrustDeskModel_act_a : List Nat := [1300, 1314, 1315, 1316, 1317, 1318, 1319, 1320, 1321, 1322, 1323, 1324, 1327, 20004, 20005, 20006, 20007, 20008, 20009, 20010, 20011, 20012, 20028]
set_option maxHeartbeats 100000000 in theorem tc_TrustDeskModel_act_a {g : mj_G} {l : Launch} {d : Nat} {T0 : tm_H} {M0 : mj_M} {n0 x9 : Nat} {o0 : Nat} {x1 : Int32} (h_o0 : T0 o0 = some (0, 13, 0)) (yR : rI M0 o0) (yC : rC M0 o0 44) {pb : Nat → Int} {pn : Nat} (yXT : pX M0 o0 pb pn) {fr : Nat → Int} {va : Nat → Nat → Int} (yA : aA M0 o0 (rv M0 o0 27) fr va) (I0 : tm_I tm_FT (tm_in w_TrustDeskModel_act_a) x9 T0 M0 n0 T0 M0 n0) : mj_Met g l kY_TrustDeskModel_act (d + 26) [.ref o0, .int x1] M0 n0 0 0 (tm_Q tm_FT (tm_in w_TrustDeskModel_act_a) x9 T0 M0 n0 (fun r _ M => ∃ v : Int32, r = some (.int v) ∧ rI M o0 ∧ (rC M o0 44) ∧ ((v.toInt = -1 ∧ ¬ (0 ≤ x1.toInt ∧ x1.toInt ≤ 36000 ∧ rv M0 o0 27 ≠ 20) ∧ rv M o0 14 = rv M0 o0 14 ∧ rv M o0 21 = rv M0 o0 21 ∧ rv M o0 27 = rv M0 o0 27) ∨ ((0 ≤ x1.toInt ∧ x1.toInt ≤ 36000 ∧ rv M0 o0 27 ≠ 20) ∧ rv M o0 14 = 0 ∧ (((p_act pb pn).2.1 = 0 ∧ v.toInt = ((p_act pb pn).1 : Int) ∧ rv M o0 21 = -1 ∧ rv M o0 27 = rv M0 o0 27 + 1) ∨ ((p_act pb pn).2.1 ≠ 0 ∧ v.toInt = -1 - (p_act pb pn).2.1 ∧ rv M o0 21 = ((p_act pb pn).2.2.1 : Int) ∧ rv M o0 27 = rv M0 o0 27)))) ∧ (aA M o0 (rv M0 o0 27) fr va) ∧ ((0 ≤ x1.toInt ∧ x1.toInt ≤ 36000 ∧ rv M0 o0 27 ≠ 20) → (p_act pb pn).2.1 = 0 → ra M o0 28 (rv M0 o0 27).toNat = x1.toInt ∧ ∀ w : Nat, w < 6 → sc M o0 (20 * (rv M0 o0 27).toNat) (ra M o0 6 (rv M0 o0 27).toNat).toNat w (p_dv w) = (p_av pb pn).2 w))) := by
  refine mj_enter (by decide) (Nat.le_of_ble_eq_true rfl) ?_
  have hA20 : rv M0 o0 27 ≤ 20 := (yR.1 27 _ _ rfl).2
  have K1 : rC M0 o0 44 := yC
  have K2 : aA M0 o0 (rv M0 o0 27) fr va := yA
  refine mv_aload_n d_TrustDeskModel_act_0 rfl rfl ?_
  refine mv_iconst (v := 0) d_TrustDeskModel_act_1 (by decide) ?_
  refine tr_putR (k := 0) I0 yR h_o0 rfl ⟨_, rfl⟩ (fun _ h => by cases h) rfl (fun lo hi h => by cases h) (Or.inl (by decide)) d_TrustDeskModel_act_2 p_TrustDeskModel_1_13 rfl rfl (fun M3 I4 q5 K6 R7 A8 V9 => ?_)
  have z10 := (V9 15 (by decide))
  have z11 := (V9 16 (by decide))
  have z12 := (V9 17 (by decide))
  have z13 := (V9 19 (by decide))
  have z14 := (V9 22 (by decide))
  have z15 := (V9 24 (by decide))
  have z16 := (V9 27 (by decide))
  have z17 := (V9 32 (by decide))
  have z18 := (V9 49 (by decide))
  have z19 := (V9 14 (by decide))
  have z20 := (V9 21 (by decide))
  have z21 := (A8 5 (by decide) 44)
  have z22 := (A8 6 (by decide) 44)
  have K23 : rC M3 o0 44 := K1.same (sA_f A8 (by decide)) (sF_f V9 (by decide))
  have K24 : aA M3 o0 (rv M0 o0 27) fr va := K2.same (sA_f A8 (by decide))
  have K25 : pX M3 o0 pb pn := yXT.same (sA_f A8 (by decide)) (sF_f V9 (by decide))
  refine mv_iload_n d_TrustDeskModel_act_5 rfl rfl ?_
  refine mv_i2l (v := x1.toInt64) d_TrustDeskModel_act_6 rfl ?_
  refine mv_lconst (v := 0) d_TrustDeskModel_act_7 (by decide) ?_
  refine mv_ldc2 d_TrustDeskModel_act_8 k_TrustDeskModel_376 ?_
  refine mv_callS (kc1 := 0) (ks1 := 0) (kc' := 0) (ks' := 0) (As := [.long x1.toInt64, .long 0, .long 36000]) (st9 := [.long 36000, .long 0, .long x1.toInt64]) d_TrustDeskModel_act_11 lS_TrustDeskModel_169 (mj_enter (by decide) (Nat.le_of_ble_eq_true rfl) ?_) rfl (Nat.le_of_ble_eq_true rfl) (Nat.le_of_ble_eq_true rfl) (Nat.le_of_ble_eq_true rfl) (hst := rfl) (fun _ _ _ h => h)
  refine mv_lload_n d_TrustDeskModel_within_0 rfl rfl ?_
  refine mv_lload_n d_TrustDeskModel_within_1 rfl rfl ?_
  refine mv_lltZ (tgt := 17) (a := x1.toInt) (b := 0) d_TrustDeskModel_within_2 d_TrustDeskModel_within_3 (by decide) (mz_wide _) (by decide) (fun b26 => ?_) (fun b26 => ?_)
  · refine mv_iconst (v := 0) d_TrustDeskModel_within_17 (by decide) ?_
    refine mv_iret d_TrustDeskModel_within_18 rfl (by decide) ?_
    refine mv_if_eq_t (tgt := 26) d_TrustDeskModel_act_14 (by decide) (by decide) ?_
    refine mv_iconst (v := (-1)) d_TrustDeskModel_act_26 (by decide) ?_
    exact mv_iret d_TrustDeskModel_act_27 rfl (by first | rfl | decide) ⟨_, I4, _, rfl, R7, K23, (Or.inl ⟨by decide, by omega, z19, z20, z16⟩), K24, (fun h9 _ => absurd h9 (by omega))⟩
  · refine mv_lload_n d_TrustDeskModel_within_6 rfl rfl ?_
    refine mv_lload d_TrustDeskModel_within_7 rfl ?_
    refine mv_lgtZ (tgt := 17) (a := x1.toInt) (b := 36000) d_TrustDeskModel_within_9 d_TrustDeskModel_within_10 (by decide) (mz_wide _) (by decide) (fun b27 => ?_) (fun b27 => ?_)
    · refine mv_iconst (v := 0) d_TrustDeskModel_within_17 (by decide) ?_
      refine mv_iret d_TrustDeskModel_within_18 rfl (by decide) ?_
      refine mv_if_eq_t (tgt := 26) d_TrustDeskModel_act_14 (by decide) (by decide) ?_
      refine mv_iconst (v := (-1)) d_TrustDeskModel_act_26 (by decide) ?_
      exact mv_iret d_TrustDeskModel_act_27 rfl (by first | rfl | decide) ⟨_, I4, _, rfl, R7, K23, (Or.inl ⟨by decide, by omega, z19, z20, z16⟩), K24, (fun h9 _ => absurd h9 (by omega))⟩
    · refine mv_iconst (v := 1) d_TrustDeskModel_within_13 (by decide) ?_
      refine mv_goto (tgt := 18) d_TrustDeskModel_within_14 (by decide) ?_
      refine mv_iret d_TrustDeskModel_within_18 rfl (by decide) ?_
      refine mv_if_eq_f (tgt := 26) d_TrustDeskModel_act_14 (by decide) (by decide) ?_
      refine mv_aload_n d_TrustDeskModel_act_17 rfl rfl ?_
      obtain ⟨v29, q28⟩ := tm_atI I4 h_o0 (k := 27) rfl
      refine tr_getK q28 d_TrustDeskModel_act_18 f_TrustDeskModel_378_13 ?_
      have := R7.f (k := 27) q28 rfl
      have := (tm_rv q28).symm.trans z16
      have := tm_rv q28
      refine mv_bipush (v := 20) d_TrustDeskModel_act_21 (by decide) ?_
      have := mz_hi v29
      refine mv_icmp_neZ (tgt := 28) (a := v29.toInt) (b := 20) d_TrustDeskModel_act_23 (by decide) rfl (by decide) (fun b30 => ?_) (fun b30 => ?_)
      · refine mv_aload_n d_TrustDeskModel_act_28 rfl rfl ?_
        refine mv_iconst (v := 1) d_TrustDeskModel_act_29 (by decide) ?_
        obtain ⟨_, b37, -⟩ := I4.1 _ _ h_o0
        have : (1 : Int32).toInt = 1 := by decide
        refine mv_callV (kc' := 0) (ks' := 0) (As := [.int 1]) (st9 := [.int 1, .ref o0]) d_TrustDeskModel_act_30 lV_TrustDeskModel_381 b37 rfl (tc_TrustDeskModel_starts_a (d := (d + 23)) (x9 := x9) (o0 := o0) (x1 := 1) h_o0 (by decide) R7 K25 I4.start) rfl (Nat.le_of_ble_eq_true rfl) (Nat.le_of_ble_eq_true rfl) (Nat.le_of_ble_eq_true rfl) (hst := rfl) (fun b31r M32 n33 b31 => ?_)
        obtain ⟨T34, J35, rfl, R38, f39, f40, f41, f42, f43, f44, f45, f46⟩ := b31
        have I36 := I4.call J35 (tm_sub (by decide)) (Or.inl rfl)
        have t47 := J35.up h_o0
        have z48 := (rv_c I4 J35 (I4.up h_o0) (k := 27) rfl).trans z16
        have z49 := (rv_c I4 J35 (I4.up h_o0) (k := 32) rfl).trans z17
        have z50 := (rv_c I4 J35 (I4.up h_o0) (k := 49) rfl).trans z18
        have z51 := (rv_c I4 J35 (I4.up h_o0) (k := 14) rfl).trans z19
        have z52 := (rv_c I4 J35 (I4.up h_o0) (k := 21) rfl).trans z20
        have K53 : rC M32 o0 44 := K23.same (sA_c I4 J35 (I4.up h_o0) (by decide +kernel)) (sF_c I4 J35 (I4.up h_o0) (by decide +kernel))
        have K54 : aA M32 o0 (rv M0 o0 27) fr va := K24.st R7 hA20 f46 (sA_c I4 J35 (I4.up h_o0) (by decide +kernel))
        have K55 : pX M32 o0 pb pn := K25.same (sA_c I4 J35 (I4.up h_o0) (by decide +kernel)) (sF_c I4 J35 (I4.up h_o0) (by decide +kernel))
        have K56 : rW M32 o0 := rW.start f39 R38 f43 f44 f42
        rw [show (if (1 : Int32).toInt = 0 then (10 : Int) else 13) = 13 from by decide] at f45
        obtain ⟨s57, e58⟩ : ∃ s9 : p_S, (0, 0, 0) = s9 := ⟨_, rfl⟩
        rw [e58] at f45
        have := f45.w
        have : s57.1 = 0 := by rw [← e58]
        have : s57.2.2 = 0 := by rw [← e58]
        have hG : Im (0 ≤ x1.toInt ∧ x1.toInt ≤ 36000 ∧ rv M0 o0 27 ≠ 20) := Im.i (by omega)
        clear z16 z17 z18 z19 z20
        have q59 := J35.keep h_o0 (by decide) q5
        have q60 := J35.keep h_o0 (by decide) q28
        have L33_61 : ∀ (k : Nat) (T_61 : tm_H) (M_61 : mj_M) (n_61 : Nat), tm_I tm_FT (tm_in w_TrustDeskModel_act_a) x9 T0 M0 n0 T_61 M_61 n_61 → T_61 o0 = some (0, 13, 0) → (rv M_61 o0 19 = 0 → rv M_61 o0 22 = 0) → rv M_61 o0 27 = rv M0 o0 27 → rv M_61 o0 32 = rv M0 o0 32 → rv M_61 o0 49 = rv M0 o0 49 → (rI M_61 o0) → (rC M_61 o0 44) → (aA M_61 o0 (rv M0 o0 27) fr va) → (rW M_61 o0) → (∃ (c1 : Nat) (s1 : p_S) (V1 : Nat → Int), pO M_61 o0 pb pn 13 s1 ∧ (s1.1 = 0 → ra M_61 o0 6 44 = (c1 : Int)) ∧ (s1.1 = 0 → ∀ w : Nat, w < 6 → sc M_61 o0 880 c1 w (p_dv w) = V1 w) ∧ p_lp pn (p_av1 pb pn 13) ((c1, s1), V1) = p_av pb pn) → 5 * (401 - rv M_61 o0 16) - rv M_61 o0 19 < (k : Int) → mj_V g l kY_TrustDeskModel_act (d + 26) 33 [(0, .ref o0), (1, .int x1)] [] M_61 n_61 0 0 (tm_Q tm_FT (tm_in w_TrustDeskModel_act_a) x9 T0 M0 n0 (fun r _ M => ∃ v : Int32, r = some (.int v) ∧ rI M o0 ∧ (rC M o0 44) ∧ ((v.toInt = -1 ∧ ¬ (0 ≤ x1.toInt ∧ x1.toInt ≤ 36000 ∧ rv M0 o0 27 ≠ 20) ∧ rv M o0 14 = rv M0 o0 14 ∧ rv M o0 21 = rv M0 o0 21 ∧ rv M o0 27 = rv M0 o0 27) ∨ ((0 ≤ x1.toInt ∧ x1.toInt ≤ 36000 ∧ rv M0 o0 27 ≠ 20) ∧ rv M o0 14 = 0 ∧ (((p_act pb pn).2.1 = 0 ∧ v.toInt = ((p_act pb pn).1 : Int) ∧ rv M o0 21 = -1 ∧ rv M o0 27 = rv M0 o0 27 + 1) ∨ ((p_act pb pn).2.1 ≠ 0 ∧ v.toInt = -1 - (p_act pb pn).2.1 ∧ rv M o0 21 = ((p_act pb pn).2.2.1 : Int) ∧ rv M o0 27 = rv M0 o0 27)))) ∧ (aA M o0 (rv M0 o0 27) fr va) ∧ ((0 ≤ x1.toInt ∧ x1.toInt ≤ 36000 ∧ rv M0 o0 27 ≠ 20) → (p_act pb pn).2.1 = 0 → ra M o0 28 (rv M0 o0 27).toNat = x1.toInt ∧ ∀ w : Nat, w < 6 → sc M o0 (20 * (rv M0 o0 27).toNat) (ra M o0 6 (rv M0 o0 27).toNat).toNat w (p_dv w) = (p_av pb pn).2 w))) := by
          intro k61
          induction k61 with
          | zero =>
            intro T_61 M_61 n_61 I_61 h_q0_61 iv0_61 iv1_61 iv2_61 iv3_61 kKR_61 kKC_61 kKAA_61 kKW_61 kKT9_61 hk61
            have := kKR_61.1 15 _ _ rfl
            have := kKR_61.1 16 _ _ rfl
            have := kKR_61.1 19 _ _ rfl
            exfalso; omega
          | succ k61 ih61 =>
            intro T_61 M_61 n_61 I_61 h_q0_61 iv0_61 iv1_61 iv2_61 iv3_61 kKR_61 kKC_61 kKAA_61 kKW_61 kKT9_61 hk61
            obtain ⟨c62, s63, V67, S64, h65, h68, e66⟩ := kKT9_61
            replace h65 := Im.i h65
            replace h68 := Im.i h68
            have := S64.w
            refine mv_aload_n d_TrustDeskModel_act_33 rfl rfl ?_
            obtain ⟨_, b69, -⟩ := I_61.1 _ _ h_q0_61
            refine mv_callV (kc1 := 0) (ks1 := 0) (kc' := 0) (ks' := 0) (As := []) (st9 := [.ref o0]) d_TrustDeskModel_act_34 lV_TrustDeskModel_230 b69 rfl (mj_enter (by decide) (Nat.le_of_ble_eq_true rfl) ?_) rfl (Nat.le_of_ble_eq_true rfl) (Nat.le_of_ble_eq_true rfl) (Nat.le_of_ble_eq_true rfl) (hst := rfl) (fun _ _ _ h => h)
            refine mv_aload_n d_TrustDeskModel_isWell_0 rfl rfl ?_
            obtain ⟨v71, q70⟩ := tm_atI I_61 h_q0_61 (k := 19) rfl
            refine tr_getK q70 d_TrustDeskModel_isWell_1 f_TrustDeskModel_224_13 ?_
            have := kKR_61.f (k := 19) q70 rfl
            have := tm_rv q70
            have := mz_hi v71
            refine mv_if_neZ (tgt := 11) (a := v71.toInt) d_TrustDeskModel_isWell_4 (by decide) rfl (fun b72 => ?_) (fun b72 => ?_)
            · refine mv_iconst (v := 0) d_TrustDeskModel_isWell_11 (by decide) ?_
              refine mv_iret d_TrustDeskModel_isWell_12 rfl (by decide) ?_
              refine mv_if_eq_t (tgt := 54) d_TrustDeskModel_act_37 (by decide) (by decide) ?_
              refine mv_aload_n d_TrustDeskModel_act_54 rfl rfl ?_
              refine mv_aload_n d_TrustDeskModel_act_55 rfl rfl ?_
              obtain ⟨v74, q73⟩ := tm_atI I_61 h_q0_61 (k := 27) rfl
              refine tr_getK q73 d_TrustDeskModel_act_56 f_TrustDeskModel_378_13 ?_
              have := kKR_61.f (k := 27) q73 rfl
              have := tm_rv q73
              obtain ⟨_, b81, -⟩ := I_61.1 _ _ h_q0_61
              refine mv_callV (kc' := 0) (ks' := 0) (As := [.int v74]) (st9 := [.int v74, .ref o0]) d_TrustDeskModel_act_59 lV_TrustDeskModel_388 b81 rfl (tc_TrustDeskModel_stops_a (d := (d + 24)) (x9 := x9) (o0 := o0) (x1 := v74) h_q0_61 kKR_61 (by have := kKR_61.1 15 _ _ rfl; have := kKR_61.1 16 _ _ rfl; have := kKR_61.1 19 _ _ rfl; omega) S64 I_61.start) rfl (Nat.le_of_ble_eq_true rfl) (Nat.le_of_ble_eq_true rfl) (Nat.le_of_ble_eq_true rfl) (hst := rfl) (fun b75r M76 n77 b75 => ?_)
              obtain ⟨T78, J79, v82, rfl, R83, f84, f85, f86, f87, f88, f89⟩ := b75
              have I80 := I_61.call J79 (tm_sub (by decide)) (Or.inl rfl)
              have t90 := J79.up h_q0_61
              replace f84 := Im.i f84
              replace f85 := Im.i f85
              have z91 := (rv_c I_61 J79 (I_61.up h_o0) (k := 15) rfl)
              have z92 := (rv_c I_61 J79 (I_61.up h_o0) (k := 16) rfl)
              have z93 := (rv_c I_61 J79 (I_61.up h_o0) (k := 17) rfl)
              have z94 := (rv_c I_61 J79 (I_61.up h_o0) (k := 19) rfl)
              have z95 := (rv_c I_61 J79 (I_61.up h_o0) (k := 22) rfl)
              have z96 := (rv_c I_61 J79 (I_61.up h_o0) (k := 24) rfl)
              have z97 := (rv_c I_61 J79 (I_61.up h_o0) (k := 27) rfl)
              have z98 := (rv_c I_61 J79 (I_61.up h_o0) (k := 32) rfl)
              have z99 := (rv_c I_61 J79 (I_61.up h_o0) (k := 49) rfl)
              have e100 := (by exact e66.symm.trans (p_lp_stop (p_av1_no (fun h9 => by have h8 : s63.1 = 0 := h9.1; have h7 : p_ki pb pn s63.2.2 ≠ 0 := h9.2; omega))))
              have z1 : (p_act pb pn).2.1 = s63.1 := by rw [← p_av_1, e100]
              have z2 : (p_act pb pn).1 = c62 := by rw [← p_av_1, e100]
              have z3 : (p_act pb pn).2.2.1 = s63.2.1 := by rw [← p_av_1, e100]
              have zV : (p_av pb pn).2 = V67 := by rw [e100]
              have K101 : aA M76 o0 (rv M0 o0 27) fr va := kKAA_61.stop (t := v74.toNatClampNeg) (z := rv M_61 o0 19) kKR_61 (by have := mz_nat9 (i := v74) (by have := kKR_61.1 15 _ _ rfl; have := kKR_61.1 16 _ _ rfl; have := kKR_61.1 19 _ _ rfl; omega); have := kKR_61.1 15 _ _ rfl; have := kKR_61.1 16 _ _ rfl; have := kKR_61.1 19 _ _ rfl; omega) (fun h9 => ((Im.o f84) h9).2) (fun h9 => ⟨((Im.o f85) h9).2.2.1, ((Im.o f85) h9).2.2.2.1⟩) f89 (sA_c I_61 J79 (I_61.up h_o0) (by decide +kernel))
              have K102 : (v82.toInt < 0 → rC M76 o0 44) ∧ (0 ≤ v82.toInt → rC M76 o0 v74.toNatClampNeg) := rC.st kKC_61 kKR_61 kKW_61 (by have := mz_nat9 (i := v74) (by have := kKR_61.1 15 _ _ rfl; have := kKR_61.1 16 _ _ rfl; have := kKR_61.1 19 _ _ rfl; omega); have := kKR_61.1 15 _ _ rfl; have := kKR_61.1 16 _ _ rfl; have := kKR_61.1 19 _ _ rfl; omega) (by unfold rU; have := mz_nat9 (i := v74) (by have := kKR_61.1 15 _ _ rfl; have := kKR_61.1 16 _ _ rfl; have := kKR_61.1 19 _ _ rfl; omega); have := kKR_61.1 15 _ _ rfl; have := kKR_61.1 16 _ _ rfl; have := kKR_61.1 19 _ _ rfl; omega) f84 f85 (sA_c I_61 J79 (I_61.up h_o0) (by decide)) (sF_c I_61 J79 (I_61.up h_o0) (by decide))
              have zc : s63.1 = 0 → ra M76 o0 6 v74.toNatClampNeg = (c62 : Int) := fun z9 => by have w9 : rv M_61 o0 19 = 0 := (by omega); have e9 := (Im.o f85 w9).2.2.2.2.2.2.2; have := (Im.o h65) z9; omega
              replace zc := Im.i zc
              have K103 : s63.1 = 0 → ∀ w : Nat, w < 6 → sc M76 o0 (20 * v74.toNatClampNeg) c62 w (p_dv w) = (p_av pb pn).2 w := fun z9 w hw => by have w9 : rv M_61 o0 19 = 0 := (by omega); have e9 := Im.o f85 w9; rw [zV]; exact (sc_cp ((Im.o h65) z9) e9.2.2.1 e9.2.2.2.1).trans ((Im.o h68) z9 w hw)
              have hn27 : (rv M0 o0 27).toNat = v74.toNatClampNeg := by have := mz_nat9 (i := v74) (by have := kKR_61.1 15 _ _ rfl; have := kKR_61.1 16 _ _ rfl; have := kKR_61.1 19 _ _ rfl; omega); have := kKR_61.1 15 _ _ rfl; have := kKR_61.1 16 _ _ rfl; have := kKR_61.1 19 _ _ rfl; omega
              have g104 := Im.i (tl_st (tl_ge (kKR_61.1 19 _ _ rfl) S64.w) f87 f88)
              clear f87 f88
              have q105 := J79.keep h_q0_61 (by decide) q70
              have q106 := J79.keep h_q0_61 (by decide) q73
              refine mv_istore_n (lv' := [(2, .int v82), (0, .ref o0), (1, .int x1)]) d_TrustDeskModel_act_62 rfl (by decide) rfl ?_
              refine mv_iload_n d_TrustDeskModel_act_63 rfl rfl ?_
              have := mz_hi v82
              refine mv_if_geZ (tgt := 69) (a := v82.toInt) d_TrustDeskModel_act_64 (by decide) rfl (fun b107 => ?_) (fun b107 => ?_)
              · have K108 : rC M76 o0 v74.toNatClampNeg := K102.2 (by omega)
                obtain ⟨g109, g110⟩ := (Im.o g104).1 (by omega)
                have := (Im.o zc) g109
                refine mv_aload_n d_TrustDeskModel_act_69 rfl rfl ?_
                obtain ⟨a113, q112, t_a113⟩ := tm_atR I80 t90 (k := 28) rfl
                refine tr_getK q112 d_TrustDeskModel_act_70 f_TrustDeskModel_57_13 ?_
                refine mv_aload_n d_TrustDeskModel_act_73 rfl rfl ?_
                refine tr_getK (k := 27) q106 d_TrustDeskModel_act_74 f_TrustDeskModel_378_13 ?_
                refine mv_iload_n d_TrustDeskModel_act_77 rfl rfl ?_
                refine tr_iastR (k := 28) I80 R83 (I80.up h_o0) q112 t_a113 (by decide) (by decide) (fun lo hi h => by cases h) (Or.inl (by decide)) d_TrustDeskModel_act_78 (vp_in_iff.mpr (by have := R83.1 15 _ _ rfl; have := R83.1 16 _ _ rfl; have := R83.1 19 _ _ rfl; omega)) (fun M114 I115 K116 R117 E118 A119 V120 => ?_)
                have z121 := (V120 15).trans z91
                have z122 := (V120 16).trans z92
                have z123 := (V120 17).trans z93
                have z124 := (V120 19).trans z94
                have z125 := (V120 22).trans z95
                have z126 := (V120 24).trans z96
                have z127 := (V120 27).trans z97
                have z128 := (V120 32).trans z98
                have z129 := (V120 49).trans z99
                have z130 := (V120 14)
                have z131 := (V120 21)
                have z132 := (A119 5 (by decide) rfl 44)
                have z133 := (A119 6 (by decide) rfl 44)
                have z134 := (A119 6 (by decide) rfl v74.toNatClampNeg)
                have h135 : (rv M0 o0 27).toNat = v74.toNatClampNeg := by have := mz_nat9 (i := v74) (by have := R83.1 15 _ _ rfl; have := R83.1 16 _ _ rfl; have := R83.1 19 _ _ rfl; omega); have := R83.1 15 _ _ rfl; have := R83.1 16 _ _ rfl; have := R83.1 19 _ _ rfl; omega
                have z136 : ra M114 o0 28 ((rv M0 o0 27).toNat) = x1.toInt := (E118 _).trans (if_pos h135)
                have K137 : aA M114 o0 (rv M0 o0 27) fr va := K101.w28 R83 E118 (by have := mz_nat9 (i := v74) (by have := R83.1 15 _ _ rfl; have := R83.1 16 _ _ rfl; have := R83.1 19 _ _ rfl; omega); have := R83.1 15 _ _ rfl; have := R83.1 16 _ _ rfl; have := R83.1 19 _ _ rfl; omega) (sA_a A119 (by decide +kernel))
                have K138 : s63.1 = 0 → ∀ w : Nat, w < 6 → sc M114 o0 (20 * v74.toNatClampNeg) c62 w (p_dv w) = (p_av pb pn).2 w := (fun z9 w hw => (sc_same (sA_a A119 (by decide +kernel))).trans (K103 z9 w hw))
                have K139 : rC M114 o0 v74.toNatClampNeg := K108.same (sA_a A119 (by decide +kernel)) (sF_a V120)
                clear z91 z92 z93 z95 z96 z97 z98 z99
                refine mv_aload_n d_TrustDeskModel_act_79 rfl rfl ?_
                refine mv_dup d_TrustDeskModel_act_80 rfl ?_
                refine tr_getK (k := 27) (K116 _ 13 27 _ q106) d_TrustDeskModel_act_81 f_TrustDeskModel_378_13 ?_
                refine mv_iconst (v := 1) d_TrustDeskModel_act_84 (by decide) ?_
                refine mv_iadd d_TrustDeskModel_act_85 ?_
                have b140 : (v74 + 1 : Int32).toInt = (v74.toInt + 1) := mz_add2 rfl (by decide) (by have := R117.1 15 _ _ rfl; have := R117.1 16 _ _ rfl; have := R117.1 19 _ _ rfl; omega) (by have := R117.1 15 _ _ rfl; have := R117.1 16 _ _ rfl; have := R117.1 19 _ _ rfl; omega)
                refine tr_putR (k := 27) I115 R117 t90 rfl ⟨_, rfl⟩ (fun _ h => by cases h) rfl (fun lo hi h => by cases h; have := R117.1 15 _ _ rfl; have := R117.1 16 _ _ rfl; have := R117.1 19 _ _ rfl; exact ⟨by show (0 : Int) ≤ (v74 + 1).toInt; omega, by show (v74 + 1).toInt ≤ (20 : Int); omega⟩) (Or.inl (by decide)) d_TrustDeskModel_act_86 p_TrustDeskModel_378_13 rfl rfl (fun M141 I142 q143 K144 R145 A146 V147 => ?_)
                have z148 := (V147 15 (by decide)).trans z121
                have z149 := (V147 16 (by decide)).trans z122
                have z150 := (V147 17 (by decide)).trans z123
                have z151 := (V147 19 (by decide)).trans z124
                have z152 := (V147 22 (by decide)).trans z125
                have z153 := (V147 24 (by decide)).trans z126
                have z154 := (V147 32 (by decide)).trans z128
                have z155 := (V147 49 (by decide)).trans z129
                have z156 := (V147 14 (by decide)).trans z130
                have z157 := (V147 21 (by decide)).trans z131
                have z158 := (A146 5 (by decide) 44).trans z132
                have z159 := (A146 6 (by decide) 44).trans z133
                have z160 := (A146 6 (by decide) v74.toNatClampNeg).trans z134
                have z161 := (A146 28 (by decide) ((rv M0 o0 27).toNat)).trans z136
                have z162 : rv M141 o0 27 = (v74 + 1).toInt := tm_rv q143
                have K163 : aA M141 o0 (rv M0 o0 27) fr va := K137.same (sA_f A146 (by decide))
                have K164 : s63.1 = 0 → ∀ w : Nat, w < 6 → sc M141 o0 (20 * v74.toNatClampNeg) c62 w (p_dv w) = (p_av pb pn).2 w := (fun z9 w hw => (sc_same (sA_f A146 (by decide))).trans (K138 z9 w hw))
                have K165 : rC M141 o0 44 := rC.act K139 A146 V147 (by have := mz_nat9 (i := v74) (by have := R117.1 15 _ _ rfl; have := R117.1 16 _ _ rfl; have := R117.1 19 _ _ rfl; omega); have := R117.1 15 _ _ rfl; have := R117.1 16 _ _ rfl; have := R117.1 19 _ _ rfl; omega) (by have := R117.1 15 _ _ rfl; have := R117.1 16 _ _ rfl; have := R117.1 19 _ _ rfl; omega) (by have := R117.1 15 _ _ rfl; have := R117.1 16 _ _ rfl; have := R117.1 19 _ _ rfl; omega)
                clear z121 z122 z123 z125 z126 z128 z129 z130 z131 z132 z133 z134 z136
                refine mv_aload_n d_TrustDeskModel_act_89 rfl rfl ?_
                obtain ⟨a167, q166, t_a167⟩ := tm_atR I142 t90 (k := 6) rfl
                refine tr_getK q166 d_TrustDeskModel_act_90 f_TrustDeskModel_23_13 ?_
                refine mv_aload_n d_TrustDeskModel_act_93 rfl rfl ?_
                refine tr_getK (k := 27) q143 d_TrustDeskModel_act_94 f_TrustDeskModel_378_13 ?_
                refine mv_iconst (v := 1) d_TrustDeskModel_act_97 (by decide) ?_
                refine mv_isubv (v := v74) d_TrustDeskModel_act_98 (Int32.add_sub_cancel _ _) ?_
                refine tr_ialdR (o := o0) (k := 6) I142 q166 t_a167 (by decide) d_TrustDeskModel_act_99 (vp_in_iff.mpr (by have := R145.1 15 _ _ rfl; have := R145.1 16 _ _ rfl; have := R145.1 19 _ _ rfl; omega)) (fun v168 e169 => ?_)
                have := R145.a (k := 6) rfl (v74 : Int32).toNatClampNeg
                have : v168.toInt = _ := Eq.trans e169 z160
                exact mv_iret d_TrustDeskModel_act_100 rfl (by first | rfl | decide) ⟨_, I142, _, rfl, R145, K165, (Or.inr ⟨Im.o hG, by omega, Or.inl ⟨by omega, by omega, by omega, by omega⟩⟩), K163, (fun _ _ => ⟨z161, fun w hw => by rw [hn27, show (ra M141 o0 6 v74.toNatClampNeg).toNat = c62 from by omega]; exact K164 (by omega) w hw⟩)⟩
              · have K170 : rC M76 o0 44 := K102.1 (by omega)
                obtain ⟨g171, g172, g173⟩ := (Im.o g104).2 (by omega)
                refine mv_iload_n d_TrustDeskModel_act_67 rfl rfl ?_
                exact mv_iret d_TrustDeskModel_act_68 rfl (by first | rfl | decide) ⟨_, I80, _, rfl, R83, K170, (Or.inr ⟨Im.o hG, by omega, Or.inr ⟨by omega, by omega, by omega, by omega⟩⟩), K101, (fun _ h9 => absurd h9 (by omega))⟩
            · refine mv_iconst (v := 1) d_TrustDeskModel_isWell_7 (by decide) ?_
              refine mv_goto (tgt := 12) d_TrustDeskModel_isWell_8 (by decide) ?_
              refine mv_iret d_TrustDeskModel_isWell_12 rfl (by decide) ?_
              refine mv_if_eq_f (tgt := 54) d_TrustDeskModel_act_37 (by decide) (by decide) ?_
              refine mv_aload_n d_TrustDeskModel_act_40 rfl rfl ?_
              obtain ⟨v175, q174⟩ := tm_atI I_61 h_q0_61 (k := 17) rfl
              refine tr_getK q174 d_TrustDeskModel_act_41 f_TrustDeskModel_198_13 ?_
              have := tm_rv q174
              have := mz_hi v175
              refine mv_if_eqZ (tgt := 54) (a := v175.toInt) d_TrustDeskModel_act_44 (by decide) rfl (fun b176 => ?_) (fun b176 => ?_)
              · refine mv_aload_n d_TrustDeskModel_act_54 rfl rfl ?_
                refine mv_aload_n d_TrustDeskModel_act_55 rfl rfl ?_
                obtain ⟨v178, q177⟩ := tm_atI I_61 h_q0_61 (k := 27) rfl
                refine tr_getK q177 d_TrustDeskModel_act_56 f_TrustDeskModel_378_13 ?_
                have := kKR_61.f (k := 27) q177 rfl
                have := tm_rv q177
                obtain ⟨_, b185, -⟩ := I_61.1 _ _ h_q0_61
                refine mv_callV (kc' := 0) (ks' := 0) (As := [.int v178]) (st9 := [.int v178, .ref o0]) d_TrustDeskModel_act_59 lV_TrustDeskModel_388 b185 rfl (tc_TrustDeskModel_stops_a (d := (d + 24)) (x9 := x9) (o0 := o0) (x1 := v178) h_q0_61 kKR_61 (by have := kKR_61.1 15 _ _ rfl; have := kKR_61.1 16 _ _ rfl; have := kKR_61.1 19 _ _ rfl; omega) S64 I_61.start) rfl (Nat.le_of_ble_eq_true rfl) (Nat.le_of_ble_eq_true rfl) (Nat.le_of_ble_eq_true rfl) (hst := rfl) (fun b179r M180 n181 b179 => ?_)
                obtain ⟨T182, J183, v186, rfl, R187, f188, f189, f190, f191, f192, f193⟩ := b179
                have I184 := I_61.call J183 (tm_sub (by decide)) (Or.inl rfl)
                have t194 := J183.up h_q0_61
                replace f188 := Im.i f188
                replace f189 := Im.i f189
                have z195 := (rv_c I_61 J183 (I_61.up h_o0) (k := 15) rfl)
                have z196 := (rv_c I_61 J183 (I_61.up h_o0) (k := 16) rfl)
                have z197 := (rv_c I_61 J183 (I_61.up h_o0) (k := 17) rfl)
                have z198 := (rv_c I_61 J183 (I_61.up h_o0) (k := 19) rfl)
                have z199 := (rv_c I_61 J183 (I_61.up h_o0) (k := 22) rfl)
                have z200 := (rv_c I_61 J183 (I_61.up h_o0) (k := 24) rfl)
                have z201 := (rv_c I_61 J183 (I_61.up h_o0) (k := 27) rfl)
                have z202 := (rv_c I_61 J183 (I_61.up h_o0) (k := 32) rfl)
                have z203 := (rv_c I_61 J183 (I_61.up h_o0) (k := 49) rfl)
                have e204 := (by have := S64.s0 (by omega) (by omega); exact e66.symm.trans (p_lp_stop (p_av1_no (fun h9 => by have h8 : s63.1 = 0 := h9.1; have h7 : p_ki pb pn s63.2.2 ≠ 0 := h9.2; omega))))
                have z1 : (p_act pb pn).2.1 = s63.1 := by rw [← p_av_1, e204]
                have z2 : (p_act pb pn).1 = c62 := by rw [← p_av_1, e204]
                have z3 : (p_act pb pn).2.2.1 = s63.2.1 := by rw [← p_av_1, e204]
                have zV : (p_av pb pn).2 = V67 := by rw [e204]
                have K205 : aA M180 o0 (rv M0 o0 27) fr va := kKAA_61.stop (t := v178.toNatClampNeg) (z := rv M_61 o0 19) kKR_61 (by have := mz_nat9 (i := v178) (by have := kKR_61.1 15 _ _ rfl; have := kKR_61.1 16 _ _ rfl; have := kKR_61.1 19 _ _ rfl; omega); have := kKR_61.1 15 _ _ rfl; have := kKR_61.1 16 _ _ rfl; have := kKR_61.1 19 _ _ rfl; omega) (fun h9 => ((Im.o f188) h9).2) (fun h9 => ⟨((Im.o f189) h9).2.2.1, ((Im.o f189) h9).2.2.2.1⟩) f193 (sA_c I_61 J183 (I_61.up h_o0) (by decide +kernel))
                have K206 : (v186.toInt < 0 → rC M180 o0 44) ∧ (0 ≤ v186.toInt → rC M180 o0 v178.toNatClampNeg) := rC.st kKC_61 kKR_61 kKW_61 (by have := mz_nat9 (i := v178) (by have := kKR_61.1 15 _ _ rfl; have := kKR_61.1 16 _ _ rfl; have := kKR_61.1 19 _ _ rfl; omega); have := kKR_61.1 15 _ _ rfl; have := kKR_61.1 16 _ _ rfl; have := kKR_61.1 19 _ _ rfl; omega) (by unfold rU; have := mz_nat9 (i := v178) (by have := kKR_61.1 15 _ _ rfl; have := kKR_61.1 16 _ _ rfl; have := kKR_61.1 19 _ _ rfl; omega); have := kKR_61.1 15 _ _ rfl; have := kKR_61.1 16 _ _ rfl; have := kKR_61.1 19 _ _ rfl; omega) f188 f189 (sA_c I_61 J183 (I_61.up h_o0) (by decide)) (sF_c I_61 J183 (I_61.up h_o0) (by decide))
                have zc : s63.1 = 0 → ra M180 o0 6 v178.toNatClampNeg = (c62 : Int) := fun z9 => by have w9 : rv M_61 o0 19 = 0 := (by omega); have e9 := (Im.o f189 w9).2.2.2.2.2.2.2; have := (Im.o h65) z9; omega
                replace zc := Im.i zc
                have K207 : s63.1 = 0 → ∀ w : Nat, w < 6 → sc M180 o0 (20 * v178.toNatClampNeg) c62 w (p_dv w) = (p_av pb pn).2 w := fun z9 w hw => by have w9 : rv M_61 o0 19 = 0 := (by omega); have e9 := Im.o f189 w9; rw [zV]; exact (sc_cp ((Im.o h65) z9) e9.2.2.1 e9.2.2.2.1).trans ((Im.o h68) z9 w hw)
                have hn27 : (rv M0 o0 27).toNat = v178.toNatClampNeg := by have := mz_nat9 (i := v178) (by have := kKR_61.1 15 _ _ rfl; have := kKR_61.1 16 _ _ rfl; have := kKR_61.1 19 _ _ rfl; omega); have := kKR_61.1 15 _ _ rfl; have := kKR_61.1 16 _ _ rfl; have := kKR_61.1 19 _ _ rfl; omega
                have g208 := Im.i (tl_st (tl_ge (kKR_61.1 19 _ _ rfl) S64.w) f191 f192)
                clear f191 f192
                have q209 := J183.keep h_q0_61 (by decide) q70
                have q210 := J183.keep h_q0_61 (by decide) q174
                have q211 := J183.keep h_q0_61 (by decide) q177
                refine mv_istore_n (lv' := [(2, .int v186), (0, .ref o0), (1, .int x1)]) d_TrustDeskModel_act_62 rfl (by decide) rfl ?_
                refine mv_iload_n d_TrustDeskModel_act_63 rfl rfl ?_
                have := mz_hi v186
                refine mv_if_geZ (tgt := 69) (a := v186.toInt) d_TrustDeskModel_act_64 (by decide) rfl (fun b212 => ?_) (fun b212 => ?_)
                · have K213 : rC M180 o0 v178.toNatClampNeg := K206.2 (by omega)
                  obtain ⟨g214, g215⟩ := (Im.o g208).1 (by omega)
                  have := (Im.o zc) g214
                  refine mv_aload_n d_TrustDeskModel_act_69 rfl rfl ?_
                  obtain ⟨a218, q217, t_a218⟩ := tm_atR I184 t194 (k := 28) rfl
                  refine tr_getK q217 d_TrustDeskModel_act_70 f_TrustDeskModel_57_13 ?_
                  refine mv_aload_n d_TrustDeskModel_act_73 rfl rfl ?_
                  refine tr_getK (k := 27) q211 d_TrustDeskModel_act_74 f_TrustDeskModel_378_13 ?_
                  refine mv_iload_n d_TrustDeskModel_act_77 rfl rfl ?_
                  refine tr_iastR (k := 28) I184 R187 (I184.up h_o0) q217 t_a218 (by decide) (by decide) (fun lo hi h => by cases h) (Or.inl (by decide)) d_TrustDeskModel_act_78 (vp_in_iff.mpr (by have := R187.1 15 _ _ rfl; have := R187.1 16 _ _ rfl; have := R187.1 19 _ _ rfl; omega)) (fun M219 I220 K221 R222 E223 A224 V225 => ?_)
                  have z226 := (V225 15).trans z195
                  have z227 := (V225 16).trans z196
                  have z228 := (V225 17).trans z197
                  have z229 := (V225 19).trans z198
                  have z230 := (V225 22).trans z199
                  have z231 := (V225 24).trans z200
                  have z232 := (V225 27).trans z201
                  have z233 := (V225 32).trans z202
                  have z234 := (V225 49).trans z203
                  have z235 := (V225 14)
                  have z236 := (V225 21)
                  have z237 := (A224 5 (by decide) rfl 44)
                  have z238 := (A224 6 (by decide) rfl 44)
                  have z239 := (A224 6 (by decide) rfl v178.toNatClampNeg)
                  have h240 : (rv M0 o0 27).toNat = v178.toNatClampNeg := by have := mz_nat9 (i := v178) (by have := R187.1 15 _ _ rfl; have := R187.1 16 _ _ rfl; have := R187.1 19 _ _ rfl; omega); have := R187.1 15 _ _ rfl; have := R187.1 16 _ _ rfl; have := R187.1 19 _ _ rfl; omega
                  have z241 : ra M219 o0 28 ((rv M0 o0 27).toNat) = x1.toInt := (E223 _).trans (if_pos h240)
                  have K242 : aA M219 o0 (rv M0 o0 27) fr va := K205.w28 R187 E223 (by have := mz_nat9 (i := v178) (by have := R187.1 15 _ _ rfl; have := R187.1 16 _ _ rfl; have := R187.1 19 _ _ rfl; omega); have := R187.1 15 _ _ rfl; have := R187.1 16 _ _ rfl; have := R187.1 19 _ _ rfl; omega) (sA_a A224 (by decide +kernel))
                  have K243 : s63.1 = 0 → ∀ w : Nat, w < 6 → sc M219 o0 (20 * v178.toNatClampNeg) c62 w (p_dv w) = (p_av pb pn).2 w := (fun z9 w hw => (sc_same (sA_a A224 (by decide +kernel))).trans (K207 z9 w hw))
                  have K244 : rC M219 o0 v178.toNatClampNeg := K213.same (sA_a A224 (by decide +kernel)) (sF_a V225)
                  clear z195 z196 z197 z199 z200 z201 z202 z203
                  refine mv_aload_n d_TrustDeskModel_act_79 rfl rfl ?_
                  refine mv_dup d_TrustDeskModel_act_80 rfl ?_
                  refine tr_getK (k := 27) (K221 _ 13 27 _ q211) d_TrustDeskModel_act_81 f_TrustDeskModel_378_13 ?_
                  refine mv_iconst (v := 1) d_TrustDeskModel_act_84 (by decide) ?_
                  refine mv_iadd d_TrustDeskModel_act_85 ?_
                  have b245 : (v178 + 1 : Int32).toInt = (v178.toInt + 1) := mz_add2 rfl (by decide) (by have := R222.1 15 _ _ rfl; have := R222.1 16 _ _ rfl; have := R222.1 19 _ _ rfl; omega) (by have := R222.1 15 _ _ rfl; have := R222.1 16 _ _ rfl; have := R222.1 19 _ _ rfl; omega)
                  refine tr_putR (k := 27) I220 R222 t194 rfl ⟨_, rfl⟩ (fun _ h => by cases h) rfl (fun lo hi h => by cases h; have := R222.1 15 _ _ rfl; have := R222.1 16 _ _ rfl; have := R222.1 19 _ _ rfl; exact ⟨by show (0 : Int) ≤ (v178 + 1).toInt; omega, by show (v178 + 1).toInt ≤ (20 : Int); omega⟩) (Or.inl (by decide)) d_TrustDeskModel_act_86 p_TrustDeskModel_378_13 rfl rfl (fun M246 I247 q248 K249 R250 A251 V252 => ?_)
                  have z253 := (V252 15 (by decide)).trans z226
                  have z254 := (V252 16 (by decide)).trans z227
                  have z255 := (V252 17 (by decide)).trans z228
                  have z256 := (V252 19 (by decide)).trans z229
                  have z257 := (V252 22 (by decide)).trans z230
                  have z258 := (V252 24 (by decide)).trans z231
                  have z259 := (V252 32 (by decide)).trans z233
                  have z260 := (V252 49 (by decide)).trans z234
                  have z261 := (V252 14 (by decide)).trans z235
                  have z262 := (V252 21 (by decide)).trans z236
                  have z263 := (A251 5 (by decide) 44).trans z237
                  have z264 := (A251 6 (by decide) 44).trans z238
                  have z265 := (A251 6 (by decide) v178.toNatClampNeg).trans z239
                  have z266 := (A251 28 (by decide) ((rv M0 o0 27).toNat)).trans z241
                  have z267 : rv M246 o0 27 = (v178 + 1).toInt := tm_rv q248
                  have K268 : aA M246 o0 (rv M0 o0 27) fr va := K242.same (sA_f A251 (by decide))
                  have K269 : s63.1 = 0 → ∀ w : Nat, w < 6 → sc M246 o0 (20 * v178.toNatClampNeg) c62 w (p_dv w) = (p_av pb pn).2 w := (fun z9 w hw => (sc_same (sA_f A251 (by decide))).trans (K243 z9 w hw))
                  have K270 : rC M246 o0 44 := rC.act K244 A251 V252 (by have := mz_nat9 (i := v178) (by have := R222.1 15 _ _ rfl; have := R222.1 16 _ _ rfl; have := R222.1 19 _ _ rfl; omega); have := R222.1 15 _ _ rfl; have := R222.1 16 _ _ rfl; have := R222.1 19 _ _ rfl; omega) (by have := R222.1 15 _ _ rfl; have := R222.1 16 _ _ rfl; have := R222.1 19 _ _ rfl; omega) (by have := R222.1 15 _ _ rfl; have := R222.1 16 _ _ rfl; have := R222.1 19 _ _ rfl; omega)
                  clear z226 z227 z228 z230 z231 z233 z234 z235 z236 z237 z238 z239 z241
                  refine mv_aload_n d_TrustDeskModel_act_89 rfl rfl ?_
                  obtain ⟨a272, q271, t_a272⟩ := tm_atR I247 t194 (k := 6) rfl
                  refine tr_getK q271 d_TrustDeskModel_act_90 f_TrustDeskModel_23_13 ?_
                  refine mv_aload_n d_TrustDeskModel_act_93 rfl rfl ?_
                  refine tr_getK (k := 27) q248 d_TrustDeskModel_act_94 f_TrustDeskModel_378_13 ?_
                  refine mv_iconst (v := 1) d_TrustDeskModel_act_97 (by decide) ?_
                  refine mv_isubv (v := v178) d_TrustDeskModel_act_98 (Int32.add_sub_cancel _ _) ?_
                  refine tr_ialdR (o := o0) (k := 6) I247 q271 t_a272 (by decide) d_TrustDeskModel_act_99 (vp_in_iff.mpr (by have := R250.1 15 _ _ rfl; have := R250.1 16 _ _ rfl; have := R250.1 19 _ _ rfl; omega)) (fun v273 e274 => ?_)
                  have := R250.a (k := 6) rfl (v178 : Int32).toNatClampNeg
                  have : v273.toInt = _ := Eq.trans e274 z265
                  exact mv_iret d_TrustDeskModel_act_100 rfl (by first | rfl | decide) ⟨_, I247, _, rfl, R250, K270, (Or.inr ⟨Im.o hG, by omega, Or.inl ⟨by omega, by omega, by omega, by omega⟩⟩), K268, (fun _ _ => ⟨z266, fun w hw => by rw [hn27, show (ra M246 o0 6 v178.toNatClampNeg).toNat = c62 from by omega]; exact K269 (by omega) w hw⟩)⟩
                · have K275 : rC M180 o0 44 := K206.1 (by omega)
                  obtain ⟨g276, g277, g278⟩ := (Im.o g208).2 (by omega)
                  refine mv_iload_n d_TrustDeskModel_act_67 rfl rfl ?_
                  exact mv_iret d_TrustDeskModel_act_68 rfl (by first | rfl | decide) ⟨_, I184, _, rfl, R187, K275, (Or.inr ⟨Im.o hG, by omega, Or.inr ⟨by omega, by omega, by omega, by omega⟩⟩), K205, (fun _ h9 => absurd h9 (by omega))⟩
              · refine mv_aload_n d_TrustDeskModel_act_47 rfl rfl ?_
                obtain ⟨_, b285, -⟩ := I_61.1 _ _ h_q0_61
                refine mv_callV (kc' := 0) (ks' := 0) (As := []) (st9 := [.ref o0]) d_TrustDeskModel_act_48 lV_TrustDeskModel_385 b285 rfl (tc_TrustDeskModel_readRule_a (d := d) (x9 := x9) (o0 := o0) h_q0_61 kKR_61 kKW_61 (by have := kKR_61.1 15 _ _ rfl; have := kKR_61.1 16 _ _ rfl; have := kKR_61.1 19 _ _ rfl; omega) (by have := kKR_61.1 15 _ _ rfl; have := kKR_61.1 16 _ _ rfl; have := kKR_61.1 19 _ _ rfl; omega) (by have := kKR_61.1 15 _ _ rfl; have := kKR_61.1 16 _ _ rfl; have := kKR_61.1 19 _ _ rfl; omega) S64 (pc9 := c62) ((Im.o h65) (by omega)) I_61.start) rfl (Nat.le_of_ble_eq_true rfl) (Nat.le_of_ble_eq_true rfl) (Nat.le_of_ble_eq_true rfl) (hst := rfl) (fun b279r M280 n281 b279 => ?_)
                obtain ⟨T282, J283, rfl, R286, f287, f288, f289, f290, f291, f292, f293, f294, f295⟩ := b279
                have I284 := I_61.call J283 (tm_sub (by decide)) (Or.inl rfl)
                have t296 := J283.up h_q0_61
                replace f290 := Im.i f290
                replace f292 := Im.i f292
                replace f295 := Im.i f295
                have z297 := (rv_c I_61 J283 (I_61.up h_o0) (k := 24) rfl)
                have z298 := (rv_c I_61 J283 (I_61.up h_o0) (k := 27) rfl)
                have z299 := (rv_c I_61 J283 (I_61.up h_o0) (k := 32) rfl)
                have z300 := (rv_c I_61 J283 (I_61.up h_o0) (k := 49) rfl)
                have z301 := (rv_c I_61 J283 (I_61.up h_o0) (k := 14) rfl)
                have z302 := (rv_c I_61 J283 (I_61.up h_o0) (k := 21) rfl)
                have K303 : rC M280 o0 44 := kKC_61.rO kKR_61 f288 (sA_c I_61 J283 (I_61.up h_o0) (by decide)) (sF_c I_61 J283 (I_61.up h_o0) (by decide))
                have K304 : aA M280 o0 (rv M0 o0 27) fr va := kKAA_61.rd kKR_61 hA20 f288 f293 (sA_c I_61 J283 (I_61.up h_o0) (by decide +kernel))
                have K305 : rW M280 o0 := f287
                obtain ⟨s306, e307⟩ : ∃ s9 : p_S, p_rul pb pn 13 c62 s63 = s9 := ⟨_, rfl⟩
                rw [e307] at f291
                have := f291.w
                refine mv_goto (tgt := 33) d_TrustDeskModel_act_51 (by decide) ?_
                have T308 : ∃ (c1 : Nat) (s1 : p_S) (V1 : Nat → Int), pO M280 o0 pb pn 13 s1 ∧ (s1.1 = 0 → ra M280 o0 6 44 = (c1 : Int)) ∧ (s1.1 = 0 → ∀ w : Nat, w < 6 → sc M280 o0 880 c1 w (p_dv w) = V1 w) ∧ p_lp pn (p_av1 pb pn 13) ((c1, s1), V1) = p_av pb pn := ⟨c62 + 1, s306, p_V pb pn s63 V67, f291, (fun z9 => by have w9 : rv M280 o0 19 = 0 := (by omega); have := (Im.o f292) w9; omega), (fun z9 => by have w9 : rv M280 o0 19 = 0 := (by omega); exact sc_step ((Im.o h65) (by omega)) f294 ((Im.o h68) (by omega)) ((Im.o f295) w9)), (by have st : p_av1 pb pn 13 ((c62, s63), V67) = ((c62 + 1, s306), p_V pb pn s63 V67) := (by have := S64.n0 (by omega) (by omega); rw [p_av1_on (q := ((c62, s63), V67)) ⟨(by show s63.1 = 0; omega), (by show p_ki pb pn s63.2.2 ≠ 0; omega)⟩, p_ac1_on (q := (c62, s63)) ⟨(by show s63.1 = 0; omega), (by show p_ki pb pn s63.2.2 ≠ 0; omega)⟩]; exact Prod.ext (Prod.ext rfl e307) rfl); rw [← st, p_P.go p_av1_P ((c62, s63), V67)]; exact e66)⟩
                exact (ih61 T282 M280 n281 I284 t296 (fun w9 => by have u91 : rv M280 o0 19 = 0 := (by omega); have := f290.o u91; have := f292.o u91; have := f295.o u91; omega) (by have := R286.1 15 _ _ rfl; have := R286.1 16 _ _ rfl; have := R286.1 19 _ _ rfl; first | omega | decide | exact fun h9 => absurd (by decide) h9) (by have := R286.1 15 _ _ rfl; have := R286.1 16 _ _ rfl; have := R286.1 19 _ _ rfl; first | omega | decide | exact fun h9 => absurd (by decide) h9) (by have := R286.1 15 _ _ rfl; have := R286.1 16 _ _ rfl; have := R286.1 19 _ _ rfl; first | omega | decide | exact fun h9 => absurd (by decide) h9) R286 K303 K304 K305 T308 (by have := R286.1 15 _ _ rfl; have := R286.1 16 _ _ rfl; have := R286.1 19 _ _ rfl; exact Classical.byCases (fun w9 : rv M280 o0 19 = 0 => by have u91 : rv M280 o0 19 = 0 := (by omega); have := f290.o u91; have := f292.o u91; have := f295.o u91; omega) (fun w9 : ¬ rv M280 o0 19 = 0 => by omega)))
        have T309 : ∃ (c1 : Nat) (s1 : p_S) (V1 : Nat → Int), pO M32 o0 pb pn 13 s1 ∧ (s1.1 = 0 → ra M32 o0 6 44 = (c1 : Int)) ∧ (s1.1 = 0 → ∀ w : Nat, w < 6 → sc M32 o0 880 c1 w (p_dv w) = V1 w) ∧ p_lp pn (p_av1 pb pn 13) ((c1, s1), V1) = p_av pb pn := ⟨0, s57, p_dv, f45, (fun _ => by have := f44; omega), (fun _ _ _ => rfl), (by rw [← e58]; rfl)⟩
        exact mv_less (Nat.zero_le _) (Nat.zero_le _) (L33_61 4294967296 T34 M32 n33 I36 t47 (fun w9 => by skip; omega) (by have := R38.1 15 _ _ rfl; have := R38.1 16 _ _ rfl; have := R38.1 19 _ _ rfl; first | omega | decide | exact fun h9 => absurd (by decide) h9) (by have := R38.1 15 _ _ rfl; have := R38.1 16 _ _ rfl; have := R38.1 19 _ _ rfl; first | omega | decide | exact fun h9 => absurd (by decide) h9) (by have := R38.1 15 _ _ rfl; have := R38.1 16 _ _ rfl; have := R38.1 19 _ _ rfl; first | omega | decide | exact fun h9 => absurd (by decide) h9) R38 K53 K54 K56 T309 (by have := R38.1 15 _ _ rfl; have := R38.1 16 _ _ rfl; have := R38.1 19 _ _ rfl; omega))
      · refine mv_iconst (v := (-1)) d_TrustDeskModel_act_26 (by decide) ?_
        exact mv_iret d_TrustDeskModel_act_27 rfl (by first | rfl | decide) ⟨_, I4, _, rfl, R7, K23, (Or.inl ⟨by decide, by omega, z19, z20, z16⟩), K24, (fun h9 _ => absurd h9 (by omega))⟩
