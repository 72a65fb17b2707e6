def w_TrustDeskModel_near_a : List Nat := [1300, 1314, 1315, 1316, 1317, 1318, 1319, 1320, 1321, 1322, 1323, 1324, 1349, 20004, 20005, 20006, 20007, 20008, 20009, 20010, 20011, 20012, 20025, 20026, 20050]
set_option maxHeartbeats 100000000 in theorem tc_TrustDeskModel_near_a {g : mj_G} {l : Launch} {d : Nat} {T0 : tm_H} {M0 : mj_M} {n0 x9 : Nat} {o0 : Nat} {x1 : Int32} (h_o0 : T0 o0 = some (0, 13, 0)) (yR : rI M0 o0) (yC : rC M0 o0 44) {pb : Nat → Int} {pn : Nat} (yXT : pX M0 o0 pb pn) {fr : Nat → Int} {va : Nat → Nat → Int} (yA : aA M0 o0 (rv M0 o0 27) fr va) (I0 : tm_I tm_FT (tm_in w_TrustDeskModel_near_a) x9 T0 M0 n0 T0 M0 n0) : mj_Met g l kY_TrustDeskModel_near (d + 27) [.ref o0, .int x1] M0 n0 0 0 (tm_Q tm_FT (tm_in w_TrustDeskModel_near_a) x9 T0 M0 n0 (fun r _ M => ∃ v : Int32, r = some (.int v) ∧ rI M o0 ∧ (rC M o0 44) ∧ (rv M0 o0 49 ≤ rv M o0 49) ∧ ((v.toInt = -1 ∧ ¬ (0 ≤ x1.toInt ∧ x1.toInt ≤ 255 ∧ rv M0 o0 49 ≠ 12) ∧ rv M o0 14 = rv M0 o0 14 ∧ rv M o0 21 = rv M0 o0 21 ∧ rv M o0 49 = rv M0 o0 49) ∨ ((0 ≤ x1.toInt ∧ x1.toInt ≤ 255 ∧ rv M0 o0 49 ≠ 12) ∧ rv M o0 14 = 0 ∧ (((p_nea pb pn).1 = 0 ∧ v.toInt = rv M0 o0 49 ∧ rv M o0 21 = -1 ∧ rv M o0 49 = rv M0 o0 49 + 1) ∨ ((p_nea pb pn).1 ≠ 0 ∧ v.toInt = -1 - (p_nea pb pn).1 ∧ rv M o0 21 = ((p_nea pb pn).2.1 : Int) ∧ rv M o0 49 = rv M0 o0 49)))) ∧ (aA M o0 (rv M0 o0 27) fr va))) := by
  refine mj_enter (by decide) (Nat.le_of_ble_eq_true rfl) ?_
  have hA20 : rv M0 o0 27 ≤ 20 := (yR.1 27 _ _ rfl).2
  have K1 : rC M0 o0 44 := yC
  have K2 : aA M0 o0 (rv M0 o0 27) fr va := yA
  refine mv_aload_n d_TrustDeskModel_near_0 rfl rfl ?_
  refine mv_iconst (v := 0) d_TrustDeskModel_near_1 (by decide) ?_
  refine tr_putR (k := 0) I0 yR h_o0 rfl ⟨_, rfl⟩ (fun _ h => by cases h) rfl (fun lo hi h => by cases h) (Or.inl (by decide)) d_TrustDeskModel_near_2 p_TrustDeskModel_1_13 rfl rfl (fun M3 I4 q5 K6 R7 A8 V9 => ?_)
  have z10 := (V9 15 (by decide))
  have z11 := (V9 16 (by decide))
  have z12 := (V9 17 (by decide))
  have z13 := (V9 19 (by decide))
  have z14 := (V9 22 (by decide))
  have z15 := (V9 24 (by decide))
  have z16 := (V9 27 (by decide))
  have z17 := (V9 32 (by decide))
  have z18 := (V9 49 (by decide))
  have z19 := (V9 14 (by decide))
  have z20 := (V9 21 (by decide))
  have z21 := (A8 5 (by decide) 44)
  have z22 := (A8 6 (by decide) 44)
  have K23 : rC M3 o0 44 := K1.same (sA_f A8 (by decide)) (sF_f V9 (by decide))
  have K24 : aA M3 o0 (rv M0 o0 27) fr va := K2.same (sA_f A8 (by decide))
  have K25 : pX M3 o0 pb pn := yXT.same (sA_f A8 (by decide)) (sF_f V9 (by decide))
  refine mv_iload_n d_TrustDeskModel_near_5 rfl rfl ?_
  refine mv_i2l (v := x1.toInt64) d_TrustDeskModel_near_6 rfl ?_
  refine mv_lconst (v := 0) d_TrustDeskModel_near_7 (by decide) ?_
  refine mv_ldc2 d_TrustDeskModel_near_8 k_TrustDeskModel_433 ?_
  refine mv_callS (kc1 := 0) (ks1 := 0) (kc' := 0) (ks' := 0) (As := [.long x1.toInt64, .long 0, .long 255]) (st9 := [.long 255, .long 0, .long x1.toInt64]) d_TrustDeskModel_near_11 lS_TrustDeskModel_169 (mj_enter (by decide) (Nat.le_of_ble_eq_true rfl) ?_) rfl (Nat.le_of_ble_eq_true rfl) (Nat.le_of_ble_eq_true rfl) (Nat.le_of_ble_eq_true rfl) (hst := rfl) (fun _ _ _ h => h)
  refine mv_lload_n d_TrustDeskModel_within_0 rfl rfl ?_
  refine mv_lload_n d_TrustDeskModel_within_1 rfl rfl ?_
  refine mv_lltZ (tgt := 17) (a := x1.toInt) (b := 0) d_TrustDeskModel_within_2 d_TrustDeskModel_within_3 (by decide) (mz_wide _) (by decide) (fun b26 => ?_) (fun b26 => ?_)
  · refine mv_iconst (v := 0) d_TrustDeskModel_within_17 (by decide) ?_
    refine mv_iret d_TrustDeskModel_within_18 rfl (by decide) ?_
    refine mv_if_eq_t (tgt := 26) d_TrustDeskModel_near_14 (by decide) (by decide) ?_
    refine mv_iconst (v := (-1)) d_TrustDeskModel_near_26 (by decide) ?_
    exact mv_iret d_TrustDeskModel_near_27 rfl (by first | rfl | decide) ⟨_, I4, _, rfl, R7, K23, (by have := R7.1 15 _ _ rfl; have := R7.1 16 _ _ rfl; have := R7.1 19 _ _ rfl; omega), (Or.inl ⟨by decide, by omega, z19, z20, z18⟩), K24⟩
  · refine mv_lload_n d_TrustDeskModel_within_6 rfl rfl ?_
    refine mv_lload d_TrustDeskModel_within_7 rfl ?_
    refine mv_lgtZ (tgt := 17) (a := x1.toInt) (b := 255) d_TrustDeskModel_within_9 d_TrustDeskModel_within_10 (by decide) (mz_wide _) (by decide) (fun b27 => ?_) (fun b27 => ?_)
    · refine mv_iconst (v := 0) d_TrustDeskModel_within_17 (by decide) ?_
      refine mv_iret d_TrustDeskModel_within_18 rfl (by decide) ?_
      refine mv_if_eq_t (tgt := 26) d_TrustDeskModel_near_14 (by decide) (by decide) ?_
      refine mv_iconst (v := (-1)) d_TrustDeskModel_near_26 (by decide) ?_
      exact mv_iret d_TrustDeskModel_near_27 rfl (by first | rfl | decide) ⟨_, I4, _, rfl, R7, K23, (by have := R7.1 15 _ _ rfl; have := R7.1 16 _ _ rfl; have := R7.1 19 _ _ rfl; omega), (Or.inl ⟨by decide, by omega, z19, z20, z18⟩), K24⟩
    · refine mv_iconst (v := 1) d_TrustDeskModel_within_13 (by decide) ?_
      refine mv_goto (tgt := 18) d_TrustDeskModel_within_14 (by decide) ?_
      refine mv_iret d_TrustDeskModel_within_18 rfl (by decide) ?_
      refine mv_if_eq_f (tgt := 26) d_TrustDeskModel_near_14 (by decide) (by decide) ?_
      refine mv_aload_n d_TrustDeskModel_near_17 rfl rfl ?_
      obtain ⟨v29, q28⟩ := tm_atI I4 h_o0 (k := 49) rfl
      refine tr_getK q28 d_TrustDeskModel_near_18 f_TrustDeskModel_435_13 ?_
      have := R7.f (k := 49) q28 rfl
      have := (tm_rv q28).symm.trans z18
      have := tm_rv q28
      refine mv_bipush (v := 12) d_TrustDeskModel_near_21 (by decide) ?_
      have := mz_hi v29
      refine mv_icmp_neZ (tgt := 28) (a := v29.toInt) (b := 12) d_TrustDeskModel_near_23 (by decide) rfl (by decide) (fun b30 => ?_) (fun b30 => ?_)
      · refine mv_aload_n d_TrustDeskModel_near_28 rfl rfl ?_
        refine mv_iconst (v := 0) d_TrustDeskModel_near_29 (by decide) ?_
        obtain ⟨_, b37, -⟩ := I4.1 _ _ h_o0
        have : (0 : Int32).toInt = 0 := by decide
        refine mv_callV (kc' := 0) (ks' := 0) (As := [.int 0]) (st9 := [.int 0, .ref o0]) d_TrustDeskModel_near_30 lV_TrustDeskModel_381 b37 rfl (tc_TrustDeskModel_starts_a (d := (d + 24)) (x9 := x9) (o0 := o0) (x1 := 0) h_o0 (by decide) R7 K25 I4.start) rfl (Nat.le_of_ble_eq_true rfl) (Nat.le_of_ble_eq_true rfl) (Nat.le_of_ble_eq_true rfl) (hst := rfl) (fun b31r M32 n33 b31 => ?_)
        obtain ⟨T34, J35, rfl, R38, f39, f40, f41, f42, f43, f44, f45, f46⟩ := b31
        have I36 := I4.call J35 (tm_sub (by decide)) (Or.inl rfl)
        have t47 := J35.up h_o0
        have z48 := (rv_c I4 J35 (I4.up h_o0) (k := 27) rfl).trans z16
        have z49 := (rv_c I4 J35 (I4.up h_o0) (k := 32) rfl).trans z17
        have z50 := (rv_c I4 J35 (I4.up h_o0) (k := 49) rfl).trans z18
        have z51 := (rv_c I4 J35 (I4.up h_o0) (k := 14) rfl).trans z19
        have z52 := (rv_c I4 J35 (I4.up h_o0) (k := 21) rfl).trans z20
        have K53 : rC M32 o0 44 := K23.same (sA_c I4 J35 (I4.up h_o0) (by decide +kernel)) (sF_c I4 J35 (I4.up h_o0) (by decide +kernel))
        have K54 : aA M32 o0 (rv M0 o0 27) fr va := K24.st R7 hA20 f46 (sA_c I4 J35 (I4.up h_o0) (by decide +kernel))
        have K55 : pX M32 o0 pb pn := K25.same (sA_c I4 J35 (I4.up h_o0) (by decide +kernel)) (sF_c I4 J35 (I4.up h_o0) (by decide +kernel))
        have K56 : rW M32 o0 := rW.start f39 R38 f43 f44 f42
        rw [show (if (0 : Int32).toInt = 0 then (10 : Int) else 13) = 10 from by decide] at f45
        obtain ⟨s57, e58⟩ : ∃ s9 : p_S, (0, 0, 0) = s9 := ⟨_, rfl⟩
        rw [e58] at f45
        have := f45.w
        have : s57.1 = 0 := by rw [← e58]
        have : s57.2.2 = 0 := by rw [← e58]
        have K59 : pN M32 o0 pn [] := pN.nil (by have := f42; omega)
        have hG : Im (0 ≤ x1.toInt ∧ x1.toInt ≤ 255 ∧ rv M0 o0 49 ≠ 12) := Im.i (by omega)
        clear z16 z17 z18 z19 z20
        have q60 := J35.keep h_o0 (by decide) q5
        have q61 := J35.keep h_o0 (by decide) q28
        refine mv_aload_n d_TrustDeskModel_near_33 rfl rfl ?_
        refine mv_ldcSw (id := 42) (tx := "end") d_TrustDeskModel_near_34 (List.mem_of_getElem? (i := 32) rfl) ?_
        obtain ⟨_, b68, -⟩ := I36.1 _ _ t47
        refine mv_callV (kc' := 0) (ks' := 0) (As := [.ref 42]) (st9 := [.ref 42, .ref o0]) d_TrustDeskModel_near_37 lV_TrustDeskModel_244 b68 rfl (tc_TrustDeskModel_isWord_s1_42_x (d := (d + 22)) (x9 := x9) (o0 := o0) t47 R38 I36.start) rfl (Nat.le_of_ble_eq_true rfl) (Nat.le_of_ble_eq_true rfl) (Nat.le_of_ble_eq_true rfl) (hst := rfl) (fun b62r M63 n64 b62 => ?_)
        obtain ⟨T65, J66, v69, rfl, b70, b71, R72, f73, f74, f75⟩ := b62
        have I67 := I36.call J66 (tm_sub (by decide)) (Or.inl rfl)
        have t76 := J66.up t47
        replace f73 := Im.i f73
        replace f74 := Im.i f74
        replace f75 := Im.i f75
        have z77 := (rv_c I36 J66 (I36.up h_o0) (k := 15) rfl)
        have z78 := (rv_c I36 J66 (I36.up h_o0) (k := 16) rfl)
        have z79 := (rv_c I36 J66 (I36.up h_o0) (k := 17) rfl)
        have z80 := (rv_c I36 J66 (I36.up h_o0) (k := 19) rfl)
        have z81 := (rv_c I36 J66 (I36.up h_o0) (k := 22) rfl)
        have z82 := (rv_c I36 J66 (I36.up h_o0) (k := 24) rfl)
        have z83 := (rv_c I36 J66 (I36.up h_o0) (k := 27) rfl).trans z48
        have z84 := (rv_c I36 J66 (I36.up h_o0) (k := 32) rfl).trans z49
        have z85 := (rv_c I36 J66 (I36.up h_o0) (k := 49) rfl).trans z50
        have z86 := (rv_c I36 J66 (I36.up h_o0) (k := 14) rfl).trans z51
        have z87 := (rv_c I36 J66 (I36.up h_o0) (k := 21) rfl).trans z52
        have z88 := (ra_call I36 J66 (I36.up h_o0) (k := 5) rfl rfl rfl 44)
        have z89 := (ra_call I36 J66 (I36.up h_o0) (k := 6) rfl rfl rfl 44)
        have K90 : rC M63 o0 44 := K53.same (sA_c I36 J66 (I36.up h_o0) (by decide +kernel)) (sF_c I36 J66 (I36.up h_o0) (by decide +kernel))
        have K91 : aA M63 o0 (rv M0 o0 27) fr va := K54.same (sA_c I36 J66 (I36.up h_o0) (by decide +kernel))
        have K92 : rW M63 o0 := K56.same (sA_c I36 J66 (I36.up h_o0) (by decide +kernel)) (sF_c I36 J66 (I36.up h_o0) (by decide +kernel))
        have K93 : pN M63 o0 pn ([]) := K59.same (sA_c I36 J66 (I36.up h_o0) (by decide +kernel)) (sF_c I36 J66 (I36.up h_o0) (by decide +kernel))
        have K94 : v69.toInt = 1 → rwE M63 o0 := (fun h9 => (f74.o h9).same (sA_c I36 J66 (I36.up h_o0) (by decide)) (sF_c I36 J66 (I36.up h_o0) (by decide)))
        have Z995 : pO M63 o0 pb pn 10 s57 := f45.same (rE_hv I36 J66 (I36.up h_o0) 14 20 (by decide)) (rv_c I36 J66 (I36.up h_o0) (k := 23) rfl) (ra_call I36 J66 (I36.up h_o0) (k := 13) rfl rfl rfl)
        have d96 := Im.i (pO.w_26 f45 (by have := R38.1 15 _ _ rfl; have := R38.1 16 _ _ rfl; have := R38.1 19 _ _ rfl; omega) (Im.o f74) (Im.o f75) (by have := R38.1 15 _ _ rfl; have := R38.1 16 _ _ rfl; have := R38.1 19 _ _ rfl; omega))
        clear z48 z49 z50 z51 z52
        have q97 := J66.keep t47 (by decide) q60
        have q98 := J66.keep t47 (by decide) q61
        have := mz_hi v69
        refine mv_if_eqZ (tgt := 50) (a := v69.toInt) d_TrustDeskModel_near_40 (by decide) rfl (fun b99 => ?_) (fun b99 => ?_)
        · refine mv_aload_n d_TrustDeskModel_near_50 rfl rfl ?_
          refine mv_iconst (v := 1) d_TrustDeskModel_near_51 (by decide) ?_
          obtain ⟨_, b106, -⟩ := I67.1 _ _ t76
          have : (1 : Int32).toInt = 1 := by decide
          refine mv_callV (kc' := 0) (ks' := 0) (As := [.int 1]) (st9 := [.int 1, .ref o0]) d_TrustDeskModel_near_52 lV_TrustDeskModel_240 b106 rfl (tc_TrustDeskModel_fails_x (d := (d + 26)) (x9 := x9) (o0 := o0) (x1 := 1) t76 R72 (by decide) Z995 I67.start) rfl (Nat.le_of_ble_eq_true rfl) (Nat.le_of_ble_eq_true rfl) (Nat.le_of_ble_eq_true rfl) (hst := rfl) (fun b100r M101 n102 b100 => ?_)
          obtain ⟨T103, J104, rfl, R107, f108, f109⟩ := b100
          have I105 := I67.call J104 (tm_sub (by decide)) (Or.inl rfl)
          have t110 := J104.up t76
          have z111 := (rv_c I67 J104 (I67.up h_o0) (k := 15) rfl).trans z77
          have z112 := (rv_c I67 J104 (I67.up h_o0) (k := 16) rfl).trans z78
          have z113 := (rv_c I67 J104 (I67.up h_o0) (k := 17) rfl).trans z79
          have z114 := (rv_c I67 J104 (I67.up h_o0) (k := 22) rfl).trans z81
          have z115 := (rv_c I67 J104 (I67.up h_o0) (k := 24) rfl).trans z82
          have z116 := (rv_c I67 J104 (I67.up h_o0) (k := 27) rfl).trans z83
          have z117 := (rv_c I67 J104 (I67.up h_o0) (k := 32) rfl).trans z84
          have z118 := (rv_c I67 J104 (I67.up h_o0) (k := 49) rfl).trans z85
          have z119 := (rv_c I67 J104 (I67.up h_o0) (k := 14) rfl).trans z86
          have z120 := (rv_c I67 J104 (I67.up h_o0) (k := 21) rfl).trans z87
          have z121 := (ra_call I67 J104 (I67.up h_o0) (k := 5) rfl rfl rfl 44).trans z88
          have z122 := (ra_call I67 J104 (I67.up h_o0) (k := 6) rfl rfl rfl 44).trans z89
          have K123 : rC M101 o0 44 := K90.same (sA_c I67 J104 (I67.up h_o0) (by decide +kernel)) (sF_c I67 J104 (I67.up h_o0) (by decide +kernel))
          have K124 : aA M101 o0 (rv M0 o0 27) fr va := K91.same (sA_c I67 J104 (I67.up h_o0) (by decide +kernel))
          have K125 : rW M101 o0 := K92.fail (sF_c I67 J104 (I67.up h_o0) (by decide)) f108
          have K126 : pN M101 o0 pn ([]) := K93.same (sA_c I67 J104 (I67.up h_o0) (by decide +kernel)) (sF_c I67 J104 (I67.up h_o0) (by decide +kernel))
          have K127 : v69.toInt = 1 → rwE M101 o0 := (fun h9 => (K94 h9).same (sA_c I67 J104 (I67.up h_o0) (by decide +kernel)) (sF_c I67 J104 (I67.up h_o0) (by decide +kernel)))
          have K128 : rv M101 o0 19 = 0 → ra M101 o0 7 880 = 8 ∧ ra M101 o0 6 44 = 1 := (fun h9 => absurd h9 f108)
          rw [show (1 : Int32).toInt = 1 from by decide] at f109
          obtain ⟨s129, e130⟩ : ∃ s9 : p_S, p_fl pb pn 1 s57 = s9 := ⟨_, rfl⟩
          rw [e130] at f109
          have := f109.w
          clear z77 z78 z79 z81 z82 z83 z84 z85 z86 z87 z88 z89
          have q131 := J104.keep t76 (by decide) q97
          have q132 := J104.keep t76 (by decide) q98
          refine mv_aload_n d_TrustDeskModel_near_55 rfl rfl ?_
          obtain ⟨_, b133, -⟩ := I105.1 _ _ t110
          refine mv_callV (kc1 := 0) (ks1 := 0) (kc' := 0) (ks' := 0) (As := []) (st9 := [.ref o0]) d_TrustDeskModel_near_56 lV_TrustDeskModel_230 b133 rfl (mj_enter (by decide) (Nat.le_of_ble_eq_true rfl) ?_) rfl (Nat.le_of_ble_eq_true rfl) (Nat.le_of_ble_eq_true rfl) (Nat.le_of_ble_eq_true rfl) (hst := rfl) (fun _ _ _ h => h)
          refine mv_aload_n d_TrustDeskModel_isWell_0 rfl rfl ?_
          obtain ⟨v135, q134⟩ := tm_atI I105 t110 (k := 19) rfl
          refine tr_getK q134 d_TrustDeskModel_isWell_1 f_TrustDeskModel_224_13 ?_
          have := R107.f (k := 19) q134 rfl
          have := tm_rv q134
          refine mv_if_neZ (tgt := 11) (a := v135.toInt) d_TrustDeskModel_isWell_4 (by decide) rfl (fun b136 => ?_) (fun b136 => ?_)
          · refine mv_iconst (v := 0) d_TrustDeskModel_isWell_11 (by decide) ?_
            refine mv_iret d_TrustDeskModel_isWell_12 rfl (by decide) ?_
            refine mv_if_eq_t (tgt := 74) d_TrustDeskModel_near_59 (by decide) (by decide) ?_
            refine mv_aload_n d_TrustDeskModel_near_74 rfl rfl ?_
            refine mv_bipush (v := 32) d_TrustDeskModel_near_75 (by decide) ?_
            refine mv_aload_n d_TrustDeskModel_near_77 rfl rfl ?_
            refine tr_getK (k := 49) q132 d_TrustDeskModel_near_78 f_TrustDeskModel_435_13 ?_
            refine mv_iadd d_TrustDeskModel_near_81 ?_
            obtain ⟨_, b143, -⟩ := I105.1 _ _ t110
            have b144 : (32 + v29 : Int32).toInt = (32 + v29.toInt) := mz_add2 (by decide) rfl (by have := R107.1 15 _ _ rfl; have := R107.1 16 _ _ rfl; have := R107.1 19 _ _ rfl; omega) (by have := R107.1 15 _ _ rfl; have := R107.1 16 _ _ rfl; have := R107.1 19 _ _ rfl; omega)
            refine mv_callV (kc' := 0) (ks' := 0) (As := [.int (32 + v29)]) (st9 := [.int (32 + v29), .ref o0]) d_TrustDeskModel_near_82 lV_TrustDeskModel_388 b143 rfl (tc_TrustDeskModel_stops_a (d := (d + 25)) (x9 := x9) (o0 := o0) (x1 := (32 + v29)) t110 R107 (by have := R107.1 15 _ _ rfl; have := R107.1 16 _ _ rfl; have := R107.1 19 _ _ rfl; omega) f109 I105.start) rfl (Nat.le_of_ble_eq_true rfl) (Nat.le_of_ble_eq_true rfl) (Nat.le_of_ble_eq_true rfl) (hst := rfl) (fun b137r M138 n139 b137 => ?_)
            obtain ⟨T140, J141, v145, rfl, R146, f147, f148, f149, f150, f151, f152⟩ := b137
            have I142 := I105.call J141 (tm_sub (by decide)) (Or.inl rfl)
            have t153 := J141.up t110
            replace f147 := Im.i f147
            replace f148 := Im.i f148
            have z154 := (rv_c I105 J141 (I105.up h_o0) (k := 15) rfl).trans z111
            have z155 := (rv_c I105 J141 (I105.up h_o0) (k := 16) rfl).trans z112
            have z156 := (rv_c I105 J141 (I105.up h_o0) (k := 17) rfl).trans z113
            have z157 := (rv_c I105 J141 (I105.up h_o0) (k := 19) rfl)
            have z158 := (rv_c I105 J141 (I105.up h_o0) (k := 22) rfl).trans z114
            have z159 := (rv_c I105 J141 (I105.up h_o0) (k := 24) rfl).trans z115
            have z160 := (rv_c I105 J141 (I105.up h_o0) (k := 27) rfl).trans z116
            have z161 := (rv_c I105 J141 (I105.up h_o0) (k := 32) rfl).trans z117
            have z162 := (rv_c I105 J141 (I105.up h_o0) (k := 49) rfl).trans z118
            have e163 : p_nea pb pn = s129 := p_nea_0 e58 (pW0 (Im.o d96) (by omega)) e130
            have z1 : (p_nea pb pn).1 = s129.1 := by rw [e163]
            have z3 : (p_nea pb pn).2.1 = s129.2.1 := by rw [e163]
            have K164 : aA M138 o0 (rv M0 o0 27) fr va := K124.stop (t := (32 + v29).toNatClampNeg) (z := rv M101 o0 19) R107 (by have := mz_nat9 (i := (32 + v29)) (by have := R107.1 15 _ _ rfl; have := R107.1 16 _ _ rfl; have := R107.1 19 _ _ rfl; omega); have := R107.1 15 _ _ rfl; have := R107.1 16 _ _ rfl; have := R107.1 19 _ _ rfl; omega) (fun h9 => ((Im.o f147) h9).2) (fun h9 => ⟨((Im.o f148) h9).2.2.1, ((Im.o f148) h9).2.2.2.1⟩) f152 (sA_c I105 J141 (I105.up h_o0) (by decide +kernel))
            have K165 : pN M138 o0 pn ([]) := K126.same (sA_c I105 J141 (I105.up h_o0) (by decide +kernel)) (sF_c I105 J141 (I105.up h_o0) (by decide +kernel))
            have K166 : v69.toInt = 1 → rwE M138 o0 := (fun h9 => (K127 h9).same (sA_c I105 J141 (I105.up h_o0) (by decide +kernel)) (sF_c I105 J141 (I105.up h_o0) (by decide +kernel)))
            have K167 : (v145.toInt < 0 → rC M138 o0 44) ∧ (0 ≤ v145.toInt → rC M138 o0 ((32 + v29).toNatClampNeg)) := rC.st K123 R107 K125 (by have := mz_nat9 (i := (32 + v29)) (by have := R107.1 15 _ _ rfl; have := R107.1 16 _ _ rfl; have := R107.1 19 _ _ rfl; omega); have := R107.1 15 _ _ rfl; have := R107.1 16 _ _ rfl; have := R107.1 19 _ _ rfl; omega) (by unfold rU; have := mz_nat9 (i := (32 + v29)) (by have := R107.1 15 _ _ rfl; have := R107.1 16 _ _ rfl; have := R107.1 19 _ _ rfl; omega); have := R107.1 15 _ _ rfl; have := R107.1 16 _ _ rfl; have := R107.1 19 _ _ rfl; omega) f147 f148 (sA_c I105 J141 (I105.up h_o0) (by decide)) (sF_c I105 J141 (I105.up h_o0) (by decide))
            have K168 : 0 ≤ v145.toInt → ra M138 o0 7 (20 * (32 + v29).toNatClampNeg) = 8 := k8_of f147 f148 K128
            have g169 := Im.i (tl_st (tl_ge (R107.1 19 _ _ rfl) f109.w) f150 f151)
            clear f150 f151
            clear z111 z112 z113 z114 z115 z116 z117 z118
            have q170 := J141.keep t110 (by decide) q131
            have q171 := J141.keep t110 (by decide) q132
            have q172 := J141.keep t110 (by decide) q134
            refine mv_istore_n (lv' := [(2, .int v145), (0, .ref o0), (1, .int x1)]) d_TrustDeskModel_near_85 rfl (by decide) rfl ?_
            refine mv_iload_n d_TrustDeskModel_near_86 rfl rfl ?_
            have := mz_hi v145
            refine mv_if_geZ (tgt := 92) (a := v145.toInt) d_TrustDeskModel_near_87 (by decide) rfl (fun b173 => ?_) (fun b173 => ?_)
            · have K174 : rC M138 o0 ((32 + v29).toNatClampNeg) := K167.2 (by omega)
              obtain ⟨g175, g176⟩ := (Im.o g169).1 (by omega)
              refine mv_aload_n d_TrustDeskModel_near_92 rfl rfl ?_
              obtain ⟨a179, q178, t_a179⟩ := tm_atR I142 t153 (k := 50) rfl
              refine tr_getK q178 d_TrustDeskModel_near_93 f_TrustDeskModel_116_13 ?_
              refine mv_aload_n d_TrustDeskModel_near_96 rfl rfl ?_
              refine tr_getK (k := 49) q171 d_TrustDeskModel_near_97 f_TrustDeskModel_435_13 ?_
              refine mv_iload_n d_TrustDeskModel_near_100 rfl rfl ?_
              refine tr_iastR (k := 50) I142 R146 (I142.up h_o0) q178 t_a179 (by decide) (by decide) (fun lo hi h => by cases h) (Or.inl (by decide)) d_TrustDeskModel_near_101 (vp_in_iff.mpr (by have := R146.1 15 _ _ rfl; have := R146.1 16 _ _ rfl; have := R146.1 19 _ _ rfl; omega)) (fun M180 I181 K182 R183 E184 A185 V186 => ?_)
              have z187 := (V186 15).trans z154
              have z188 := (V186 16).trans z155
              have z189 := (V186 17).trans z156
              have z190 := (V186 19).trans z157
              have z191 := (V186 22).trans z158
              have z192 := (V186 24).trans z159
              have z193 := (V186 27).trans z160
              have z194 := (V186 32).trans z161
              have z195 := (V186 49).trans z162
              have z196 := (V186 14)
              have z197 := (V186 21)
              have z198 := (A185 5 (by decide) rfl 44)
              have z199 := (A185 6 (by decide) rfl 44)
              have K200 : aA M180 o0 (rv M0 o0 27) fr va := K164.same (sA_a A185 (by decide +kernel))
              have K201 : pN M180 o0 pn ([]) := K165.same (sA_a A185 (by decide +kernel)) (sF_a V186)
              have K202 : v69.toInt = 1 → rwE M180 o0 := (fun h9 => (K166 h9).same (sA_a A185 (by decide +kernel)) (sF_a V186))
              have K203 : 0 ≤ v145.toInt → ra M180 o0 7 (20 * (32 + v29).toNatClampNeg) = 8 := (by have e1 := ((sA_a A185 (by decide +kernel)) : sA [7] _ _ _) 7 rfl; rw [e1]; exact K168)
              have K204 : rC M180 o0 ((32 + v29).toNatClampNeg) := K174.same (sA_a A185 (by decide +kernel)) (sF_a V186)
              clear z154 z155 z156 z158 z159 z160 z161 z162
              refine mv_aload_n d_TrustDeskModel_near_102 rfl rfl ?_
              refine mv_dup d_TrustDeskModel_near_103 rfl ?_
              refine tr_getK (k := 49) (K182 _ 13 49 _ q171) d_TrustDeskModel_near_104 f_TrustDeskModel_435_13 ?_
              refine mv_iconst (v := 1) d_TrustDeskModel_near_107 (by decide) ?_
              refine mv_iadd d_TrustDeskModel_near_108 ?_
              have b205 : (v29 + 1 : Int32).toInt = (v29.toInt + 1) := mz_add2 rfl (by decide) (by have := R183.1 15 _ _ rfl; have := R183.1 16 _ _ rfl; have := R183.1 19 _ _ rfl; omega) (by have := R183.1 15 _ _ rfl; have := R183.1 16 _ _ rfl; have := R183.1 19 _ _ rfl; omega)
              refine tr_putR (k := 49) I181 R183 t153 rfl ⟨_, rfl⟩ (fun _ h => by cases h) rfl (fun lo hi h => by cases h; have := R183.1 15 _ _ rfl; have := R183.1 16 _ _ rfl; have := R183.1 19 _ _ rfl; exact ⟨by show (0 : Int) ≤ (v29 + 1).toInt; omega, by show (v29 + 1).toInt ≤ (12 : Int); omega⟩) (Or.inl (by decide)) d_TrustDeskModel_near_109 p_TrustDeskModel_435_13 rfl rfl (fun M206 I207 q208 K209 R210 A211 V212 => ?_)
              have z213 := (V212 15 (by decide)).trans z187
              have z214 := (V212 16 (by decide)).trans z188
              have z215 := (V212 17 (by decide)).trans z189
              have z216 := (V212 19 (by decide)).trans z190
              have z217 := (V212 22 (by decide)).trans z191
              have z218 := (V212 24 (by decide)).trans z192
              have z219 := (V212 27 (by decide)).trans z193
              have z220 := (V212 32 (by decide)).trans z194
              have z221 := (V212 14 (by decide)).trans z196
              have z222 := (V212 21 (by decide)).trans z197
              have z223 := (A211 5 (by decide) 44).trans z198
              have z224 := (A211 6 (by decide) 44).trans z199
              have z225 : rv M206 o0 49 = (v29 + 1).toInt := tm_rv q208
              have K226 : aA M206 o0 (rv M0 o0 27) fr va := K200.same (sA_f A211 (by decide))
              have K227 : pN M206 o0 pn ([]) := K201.same (sA_f A211 (by decide)) (sF_f V212 (by decide))
              have K228 : v69.toInt = 1 → rwE M206 o0 := (fun h9 => (K202 h9).same (sA_f A211 (by decide)) (sF_f V212 (by decide)))
              have K229 : 0 ≤ v145.toInt → ra M206 o0 7 (20 * (32 + v29).toNatClampNeg) = 8 := (by have e1 := ((sA_f A211 (by decide)) : sA [7] _ _ _) 7 rfl; rw [e1]; exact K203)
              have K230 : rC M206 o0 44 := rC.near K204 A211 V212 (by have := mz_nat9 (i := (32 + v29)) (by have := R183.1 15 _ _ rfl; have := R183.1 16 _ _ rfl; have := R183.1 19 _ _ rfl; omega); have := R183.1 15 _ _ rfl; have := R183.1 16 _ _ rfl; have := R183.1 19 _ _ rfl; omega) (by have := R183.1 15 _ _ rfl; have := R183.1 16 _ _ rfl; have := R183.1 19 _ _ rfl; omega) (by have := R183.1 15 _ _ rfl; have := R183.1 16 _ _ rfl; have := R183.1 19 _ _ rfl; omega) (K203 (by omega))
              clear z187 z188 z189 z191 z192 z193 z194 z196 z197 z198 z199
              refine mv_aload_n d_TrustDeskModel_near_112 rfl rfl ?_
              refine tr_getK (k := 49) q208 d_TrustDeskModel_near_113 f_TrustDeskModel_435_13 ?_
              refine mv_iconst (v := 1) d_TrustDeskModel_near_116 (by decide) ?_
              refine mv_isubv (v := v29) d_TrustDeskModel_near_117 (Int32.add_sub_cancel _ _) ?_
              exact mv_iret d_TrustDeskModel_near_118 rfl (by first | rfl | decide) ⟨_, I207, _, rfl, R210, K230, (by have := R210.1 15 _ _ rfl; have := R210.1 16 _ _ rfl; have := R210.1 19 _ _ rfl; omega), (Or.inr ⟨Im.o hG, by omega, Or.inl ⟨by omega, by omega, by omega, by omega⟩⟩), K226⟩
            · have K231 : rC M138 o0 44 := K167.1 (by omega)
              obtain ⟨g232, g233, g234⟩ := (Im.o g169).2 (by omega)
              refine mv_iload_n d_TrustDeskModel_near_90 rfl rfl ?_
              exact mv_iret d_TrustDeskModel_near_91 rfl (by first | rfl | decide) ⟨_, I142, _, rfl, R146, K231, (by have := R146.1 15 _ _ rfl; have := R146.1 16 _ _ rfl; have := R146.1 19 _ _ rfl; omega), (Or.inr ⟨Im.o hG, by omega, Or.inr ⟨by omega, by omega, by omega, by omega⟩⟩), K164⟩
          · exfalso
            have := R107.1 15 _ _ rfl; have := R107.1 16 _ _ rfl; have := R107.1 19 _ _ rfl; omega
        · refine mv_aload_n d_TrustDeskModel_near_43 rfl rfl ?_
          obtain ⟨_, b241, -⟩ := I67.1 _ _ t76
          refine mv_callV (kc' := 0) (ks' := 0) (As := []) (st9 := [.ref o0]) d_TrustDeskModel_near_44 lV_TrustDeskModel_425 b241 rfl (tc_TrustDeskModel_readClause_a (d := d) (x9 := x9) (o0 := o0) t76 R72 K92 (by have := R72.1 15 _ _ rfl; have := R72.1 16 _ _ rfl; have := R72.1 19 _ _ rfl; omega) (by have := f73.o (by omega); omega) (by have := R72.1 15 _ _ rfl; have := R72.1 16 _ _ rfl; have := R72.1 19 _ _ rfl; omega) (by have := R72.1 15 _ _ rfl; have := R72.1 16 _ _ rfl; have := R72.1 19 _ _ rfl; omega) Z995 (pc9 := 0) (by have := R72.1 15 _ _ rfl; have := R72.1 16 _ _ rfl; have := R72.1 19 _ _ rfl; omega) K93 I67.start) rfl (Nat.le_of_ble_eq_true rfl) (Nat.le_of_ble_eq_true rfl) (Nat.le_of_ble_eq_true rfl) (hst := rfl) (fun b235r M236 n237 b235 => ?_)
          obtain ⟨T238, J239, rfl, R242, f243, f244, f245, f246, f247, f248, f249, f250, f251, f252⟩ := b235
          have I240 := I67.call J239 (tm_sub (by decide)) (Or.inl rfl)
          have t253 := J239.up t76
          replace f246 := Im.i f246
          replace f247 := Im.i f247
          replace f250 := Im.i f250
          replace f251 := Im.i f251
          have z254 := (rv_c I67 J239 (I67.up h_o0) (k := 27) rfl).trans z83
          have z255 := (rv_c I67 J239 (I67.up h_o0) (k := 32) rfl).trans z84
          have z256 := (rv_c I67 J239 (I67.up h_o0) (k := 49) rfl).trans z85
          have z257 := (rv_c I67 J239 (I67.up h_o0) (k := 14) rfl).trans z86
          have z258 := (rv_c I67 J239 (I67.up h_o0) (k := 21) rfl).trans z87
          have K259 : rC M236 o0 44 := K90.rO R72 f244 (sA_c I67 J239 (I67.up h_o0) (by decide)) (sF_c I67 J239 (I67.up h_o0) (by decide))
          have K260 : aA M236 o0 (rv M0 o0 27) fr va := K91.rd R72 hA20 f244 f252 (sA_c I67 J239 (I67.up h_o0) (by decide +kernel))
          have K261 : rW M236 o0 := f243
          have h262 : (880 + ra M63 o0 6 44).toNat = 880 := by omega
          rw [h262] at f247
          have K263 : rv M236 o0 19 = 0 → ra M236 o0 7 880 = 8 ∧ ra M236 o0 6 44 = 1 := (fun h9 => ⟨(f247.o (K94 (by omega)) h9).1, by have := (f247.o (K94 (by omega)) h9).2; omega⟩)
          obtain ⟨s264, e265⟩ : ∃ s9 : p_S, (p_cl pb pn 10 (0, [], s57)).2 = s9 := ⟨_, rfl⟩
          rw [e265] at f249
          have := f249.w
          clear z83 z84 z85 z86 z87
          have q266 := J239.keep t76 (by decide) q97
          have q267 := J239.keep t76 (by decide) q98
          refine mv_goto (tgt := 55) d_TrustDeskModel_near_47 (by decide) ?_
          refine mv_aload_n d_TrustDeskModel_near_55 rfl rfl ?_
          obtain ⟨_, b268, -⟩ := I240.1 _ _ t253
          refine mv_callV (kc1 := 0) (ks1 := 0) (kc' := 0) (ks' := 0) (As := []) (st9 := [.ref o0]) d_TrustDeskModel_near_56 lV_TrustDeskModel_230 b268 rfl (mj_enter (by decide) (Nat.le_of_ble_eq_true rfl) ?_) rfl (Nat.le_of_ble_eq_true rfl) (Nat.le_of_ble_eq_true rfl) (Nat.le_of_ble_eq_true rfl) (hst := rfl) (fun _ _ _ h => h)
          refine mv_aload_n d_TrustDeskModel_isWell_0 rfl rfl ?_
          obtain ⟨v270, q269⟩ := tm_atI I240 t253 (k := 19) rfl
          refine tr_getK q269 d_TrustDeskModel_isWell_1 f_TrustDeskModel_224_13 ?_
          have := R242.f (k := 19) q269 rfl
          have := tm_rv q269
          have := mz_hi v270
          refine mv_if_neZ (tgt := 11) (a := v270.toInt) d_TrustDeskModel_isWell_4 (by decide) rfl (fun b271 => ?_) (fun b271 => ?_)
          · refine mv_iconst (v := 0) d_TrustDeskModel_isWell_11 (by decide) ?_
            refine mv_iret d_TrustDeskModel_isWell_12 rfl (by decide) ?_
            refine mv_if_eq_t (tgt := 74) d_TrustDeskModel_near_59 (by decide) (by decide) ?_
            refine mv_aload_n d_TrustDeskModel_near_74 rfl rfl ?_
            refine mv_bipush (v := 32) d_TrustDeskModel_near_75 (by decide) ?_
            refine mv_aload_n d_TrustDeskModel_near_77 rfl rfl ?_
            refine tr_getK (k := 49) q267 d_TrustDeskModel_near_78 f_TrustDeskModel_435_13 ?_
            refine mv_iadd d_TrustDeskModel_near_81 ?_
            obtain ⟨_, b278, -⟩ := I240.1 _ _ t253
            have b279 : (32 + v29 : Int32).toInt = (32 + v29.toInt) := mz_add2 (by decide) rfl (by have := R242.1 15 _ _ rfl; have := R242.1 16 _ _ rfl; have := R242.1 19 _ _ rfl; omega) (by have := R242.1 15 _ _ rfl; have := R242.1 16 _ _ rfl; have := R242.1 19 _ _ rfl; omega)
            refine mv_callV (kc' := 0) (ks' := 0) (As := [.int (32 + v29)]) (st9 := [.int (32 + v29), .ref o0]) d_TrustDeskModel_near_82 lV_TrustDeskModel_388 b278 rfl (tc_TrustDeskModel_stops_a (d := (d + 25)) (x9 := x9) (o0 := o0) (x1 := (32 + v29)) t253 R242 (by have := R242.1 15 _ _ rfl; have := R242.1 16 _ _ rfl; have := R242.1 19 _ _ rfl; omega) f249 I240.start) rfl (Nat.le_of_ble_eq_true rfl) (Nat.le_of_ble_eq_true rfl) (Nat.le_of_ble_eq_true rfl) (hst := rfl) (fun b272r M273 n274 b272 => ?_)
            obtain ⟨T275, J276, v280, rfl, R281, f282, f283, f284, f285, f286, f287⟩ := b272
            have I277 := I240.call J276 (tm_sub (by decide)) (Or.inl rfl)
            have t288 := J276.up t253
            replace f282 := Im.i f282
            replace f283 := Im.i f283
            have z289 := (rv_c I240 J276 (I240.up h_o0) (k := 15) rfl)
            have z290 := (rv_c I240 J276 (I240.up h_o0) (k := 16) rfl)
            have z291 := (rv_c I240 J276 (I240.up h_o0) (k := 17) rfl)
            have z292 := (rv_c I240 J276 (I240.up h_o0) (k := 19) rfl)
            have z293 := (rv_c I240 J276 (I240.up h_o0) (k := 22) rfl)
            have z294 := (rv_c I240 J276 (I240.up h_o0) (k := 24) rfl)
            have z295 := (rv_c I240 J276 (I240.up h_o0) (k := 27) rfl).trans z254
            have z296 := (rv_c I240 J276 (I240.up h_o0) (k := 32) rfl).trans z255
            have z297 := (rv_c I240 J276 (I240.up h_o0) (k := 49) rfl).trans z256
            have e298 : p_nea pb pn = s264 := (by first | exact p_nea_f e58 (pW1 (Im.o d96) (by omega)) e265 (by omega) | exact p_nea_o e58 (pW1 (Im.o d96) (by omega)) e265 (by have := pW1 (Im.o d96) (by omega); have := Z995.wk; omega))
            have z1 : (p_nea pb pn).1 = s264.1 := by rw [e298]
            have z3 : (p_nea pb pn).2.1 = s264.2.1 := by rw [e298]
            have K299 : aA M273 o0 (rv M0 o0 27) fr va := K260.stop (t := (32 + v29).toNatClampNeg) (z := rv M236 o0 19) R242 (by have := mz_nat9 (i := (32 + v29)) (by have := R242.1 15 _ _ rfl; have := R242.1 16 _ _ rfl; have := R242.1 19 _ _ rfl; omega); have := R242.1 15 _ _ rfl; have := R242.1 16 _ _ rfl; have := R242.1 19 _ _ rfl; omega) (fun h9 => ((Im.o f282) h9).2) (fun h9 => ⟨((Im.o f283) h9).2.2.1, ((Im.o f283) h9).2.2.2.1⟩) f287 (sA_c I240 J276 (I240.up h_o0) (by decide +kernel))
            have K300 : (v280.toInt < 0 → rC M273 o0 44) ∧ (0 ≤ v280.toInt → rC M273 o0 ((32 + v29).toNatClampNeg)) := rC.st K259 R242 K261 (by have := mz_nat9 (i := (32 + v29)) (by have := R242.1 15 _ _ rfl; have := R242.1 16 _ _ rfl; have := R242.1 19 _ _ rfl; omega); have := R242.1 15 _ _ rfl; have := R242.1 16 _ _ rfl; have := R242.1 19 _ _ rfl; omega) (by unfold rU; have := mz_nat9 (i := (32 + v29)) (by have := R242.1 15 _ _ rfl; have := R242.1 16 _ _ rfl; have := R242.1 19 _ _ rfl; omega); have := R242.1 15 _ _ rfl; have := R242.1 16 _ _ rfl; have := R242.1 19 _ _ rfl; omega) f282 f283 (sA_c I240 J276 (I240.up h_o0) (by decide)) (sF_c I240 J276 (I240.up h_o0) (by decide))
            have K301 : 0 ≤ v280.toInt → ra M273 o0 7 (20 * (32 + v29).toNatClampNeg) = 8 := k8_of f282 f283 K263
            have g302 := Im.i (tl_st (tl_ge (R242.1 19 _ _ rfl) f249.w) f285 f286)
            clear f285 f286
            clear z254 z255 z256
            have q303 := J276.keep t253 (by decide) q266
            have q304 := J276.keep t253 (by decide) q267
            have q305 := J276.keep t253 (by decide) q269
            refine mv_istore_n (lv' := [(2, .int v280), (0, .ref o0), (1, .int x1)]) d_TrustDeskModel_near_85 rfl (by decide) rfl ?_
            refine mv_iload_n d_TrustDeskModel_near_86 rfl rfl ?_
            have := mz_hi v280
            refine mv_if_geZ (tgt := 92) (a := v280.toInt) d_TrustDeskModel_near_87 (by decide) rfl (fun b306 => ?_) (fun b306 => ?_)
            · have K307 : rC M273 o0 ((32 + v29).toNatClampNeg) := K300.2 (by omega)
              obtain ⟨g308, g309⟩ := (Im.o g302).1 (by omega)
              refine mv_aload_n d_TrustDeskModel_near_92 rfl rfl ?_
              obtain ⟨a312, q311, t_a312⟩ := tm_atR I277 t288 (k := 50) rfl
              refine tr_getK q311 d_TrustDeskModel_near_93 f_TrustDeskModel_116_13 ?_
              refine mv_aload_n d_TrustDeskModel_near_96 rfl rfl ?_
              refine tr_getK (k := 49) q304 d_TrustDeskModel_near_97 f_TrustDeskModel_435_13 ?_
              refine mv_iload_n d_TrustDeskModel_near_100 rfl rfl ?_
              refine tr_iastR (k := 50) I277 R281 (I277.up h_o0) q311 t_a312 (by decide) (by decide) (fun lo hi h => by cases h) (Or.inl (by decide)) d_TrustDeskModel_near_101 (vp_in_iff.mpr (by have := R281.1 15 _ _ rfl; have := R281.1 16 _ _ rfl; have := R281.1 19 _ _ rfl; omega)) (fun M313 I314 K315 R316 E317 A318 V319 => ?_)
              have z320 := (V319 15).trans z289
              have z321 := (V319 16).trans z290
              have z322 := (V319 17).trans z291
              have z323 := (V319 19).trans z292
              have z324 := (V319 22).trans z293
              have z325 := (V319 24).trans z294
              have z326 := (V319 27).trans z295
              have z327 := (V319 32).trans z296
              have z328 := (V319 49).trans z297
              have z329 := (V319 14)
              have z330 := (V319 21)
              have z331 := (A318 5 (by decide) rfl 44)
              have z332 := (A318 6 (by decide) rfl 44)
              have K333 : aA M313 o0 (rv M0 o0 27) fr va := K299.same (sA_a A318 (by decide +kernel))
              have K334 : 0 ≤ v280.toInt → ra M313 o0 7 (20 * (32 + v29).toNatClampNeg) = 8 := (by have e1 := ((sA_a A318 (by decide +kernel)) : sA [7] _ _ _) 7 rfl; rw [e1]; exact K301)
              have K335 : rC M313 o0 ((32 + v29).toNatClampNeg) := K307.same (sA_a A318 (by decide +kernel)) (sF_a V319)
              clear z289 z290 z291 z293 z294 z295 z296 z297
              refine mv_aload_n d_TrustDeskModel_near_102 rfl rfl ?_
              refine mv_dup d_TrustDeskModel_near_103 rfl ?_
              refine tr_getK (k := 49) (K315 _ 13 49 _ q304) d_TrustDeskModel_near_104 f_TrustDeskModel_435_13 ?_
              refine mv_iconst (v := 1) d_TrustDeskModel_near_107 (by decide) ?_
              refine mv_iadd d_TrustDeskModel_near_108 ?_
              have b336 : (v29 + 1 : Int32).toInt = (v29.toInt + 1) := mz_add2 rfl (by decide) (by have := R316.1 15 _ _ rfl; have := R316.1 16 _ _ rfl; have := R316.1 19 _ _ rfl; omega) (by have := R316.1 15 _ _ rfl; have := R316.1 16 _ _ rfl; have := R316.1 19 _ _ rfl; omega)
              refine tr_putR (k := 49) I314 R316 t288 rfl ⟨_, rfl⟩ (fun _ h => by cases h) rfl (fun lo hi h => by cases h; have := R316.1 15 _ _ rfl; have := R316.1 16 _ _ rfl; have := R316.1 19 _ _ rfl; exact ⟨by show (0 : Int) ≤ (v29 + 1).toInt; omega, by show (v29 + 1).toInt ≤ (12 : Int); omega⟩) (Or.inl (by decide)) d_TrustDeskModel_near_109 p_TrustDeskModel_435_13 rfl rfl (fun M337 I338 q339 K340 R341 A342 V343 => ?_)
              have z344 := (V343 15 (by decide)).trans z320
              have z345 := (V343 16 (by decide)).trans z321
              have z346 := (V343 17 (by decide)).trans z322
              have z347 := (V343 19 (by decide)).trans z323
              have z348 := (V343 22 (by decide)).trans z324
              have z349 := (V343 24 (by decide)).trans z325
              have z350 := (V343 27 (by decide)).trans z326
              have z351 := (V343 32 (by decide)).trans z327
              have z352 := (V343 14 (by decide)).trans z329
              have z353 := (V343 21 (by decide)).trans z330
              have z354 := (A342 5 (by decide) 44).trans z331
              have z355 := (A342 6 (by decide) 44).trans z332
              have z356 : rv M337 o0 49 = (v29 + 1).toInt := tm_rv q339
              have K357 : aA M337 o0 (rv M0 o0 27) fr va := K333.same (sA_f A342 (by decide))
              have K358 : 0 ≤ v280.toInt → ra M337 o0 7 (20 * (32 + v29).toNatClampNeg) = 8 := (by have e1 := ((sA_f A342 (by decide)) : sA [7] _ _ _) 7 rfl; rw [e1]; exact K334)
              have K359 : rC M337 o0 44 := rC.near K335 A342 V343 (by have := mz_nat9 (i := (32 + v29)) (by have := R316.1 15 _ _ rfl; have := R316.1 16 _ _ rfl; have := R316.1 19 _ _ rfl; omega); have := R316.1 15 _ _ rfl; have := R316.1 16 _ _ rfl; have := R316.1 19 _ _ rfl; omega) (by have := R316.1 15 _ _ rfl; have := R316.1 16 _ _ rfl; have := R316.1 19 _ _ rfl; omega) (by have := R316.1 15 _ _ rfl; have := R316.1 16 _ _ rfl; have := R316.1 19 _ _ rfl; omega) (K334 (by omega))
              clear z320 z321 z322 z324 z325 z326 z327 z329 z330 z331 z332
              refine mv_aload_n d_TrustDeskModel_near_112 rfl rfl ?_
              refine tr_getK (k := 49) q339 d_TrustDeskModel_near_113 f_TrustDeskModel_435_13 ?_
              refine mv_iconst (v := 1) d_TrustDeskModel_near_116 (by decide) ?_
              refine mv_isubv (v := v29) d_TrustDeskModel_near_117 (Int32.add_sub_cancel _ _) ?_
              exact mv_iret d_TrustDeskModel_near_118 rfl (by first | rfl | decide) ⟨_, I338, _, rfl, R341, K359, (by have := R341.1 15 _ _ rfl; have := R341.1 16 _ _ rfl; have := R341.1 19 _ _ rfl; omega), (Or.inr ⟨Im.o hG, by omega, Or.inl ⟨by omega, by omega, by omega, by omega⟩⟩), K357⟩
            · have K360 : rC M273 o0 44 := K300.1 (by omega)
              obtain ⟨g361, g362, g363⟩ := (Im.o g302).2 (by omega)
              refine mv_iload_n d_TrustDeskModel_near_90 rfl rfl ?_
              exact mv_iret d_TrustDeskModel_near_91 rfl (by first | rfl | decide) ⟨_, I277, _, rfl, R281, K360, (by have := R281.1 15 _ _ rfl; have := R281.1 16 _ _ rfl; have := R281.1 19 _ _ rfl; omega), (Or.inr ⟨Im.o hG, by omega, Or.inr ⟨by omega, by omega, by omega, by omega⟩⟩), K299⟩
          · refine mv_iconst (v := 1) d_TrustDeskModel_isWell_7 (by decide) ?_
            refine mv_goto (tgt := 12) d_TrustDeskModel_isWell_8 (by decide) ?_
            refine mv_iret d_TrustDeskModel_isWell_12 rfl (by decide) ?_
            refine mv_if_eq_f (tgt := 74) d_TrustDeskModel_near_59 (by decide) (by decide) ?_
            refine mv_aload_n d_TrustDeskModel_near_62 rfl rfl ?_
            obtain ⟨v365, q364⟩ := tm_atI I240 t253 (k := 17) rfl
            refine tr_getK q364 d_TrustDeskModel_near_63 f_TrustDeskModel_198_13 ?_
            have := tm_rv q364
            have := mz_hi v365
            refine mv_if_eqZ (tgt := 74) (a := v365.toInt) d_TrustDeskModel_near_66 (by decide) rfl (fun b366 => ?_) (fun b366 => ?_)
            · refine mv_aload_n d_TrustDeskModel_near_74 rfl rfl ?_
              refine mv_bipush (v := 32) d_TrustDeskModel_near_75 (by decide) ?_
              refine mv_aload_n d_TrustDeskModel_near_77 rfl rfl ?_
              refine tr_getK (k := 49) q267 d_TrustDeskModel_near_78 f_TrustDeskModel_435_13 ?_
              refine mv_iadd d_TrustDeskModel_near_81 ?_
              obtain ⟨_, b373, -⟩ := I240.1 _ _ t253
              have b374 : (32 + v29 : Int32).toInt = (32 + v29.toInt) := mz_add2 (by decide) rfl (by have := R242.1 15 _ _ rfl; have := R242.1 16 _ _ rfl; have := R242.1 19 _ _ rfl; omega) (by have := R242.1 15 _ _ rfl; have := R242.1 16 _ _ rfl; have := R242.1 19 _ _ rfl; omega)
              refine mv_callV (kc' := 0) (ks' := 0) (As := [.int (32 + v29)]) (st9 := [.int (32 + v29), .ref o0]) d_TrustDeskModel_near_82 lV_TrustDeskModel_388 b373 rfl (tc_TrustDeskModel_stops_a (d := (d + 25)) (x9 := x9) (o0 := o0) (x1 := (32 + v29)) t253 R242 (by have := R242.1 15 _ _ rfl; have := R242.1 16 _ _ rfl; have := R242.1 19 _ _ rfl; omega) f249 I240.start) rfl (Nat.le_of_ble_eq_true rfl) (Nat.le_of_ble_eq_true rfl) (Nat.le_of_ble_eq_true rfl) (hst := rfl) (fun b367r M368 n369 b367 => ?_)
              obtain ⟨T370, J371, v375, rfl, R376, f377, f378, f379, f380, f381, f382⟩ := b367
              have I372 := I240.call J371 (tm_sub (by decide)) (Or.inl rfl)
              have t383 := J371.up t253
              replace f377 := Im.i f377
              replace f378 := Im.i f378
              have z384 := (rv_c I240 J371 (I240.up h_o0) (k := 15) rfl)
              have z385 := (rv_c I240 J371 (I240.up h_o0) (k := 16) rfl)
              have z386 := (rv_c I240 J371 (I240.up h_o0) (k := 17) rfl)
              have z387 := (rv_c I240 J371 (I240.up h_o0) (k := 19) rfl)
              have z388 := (rv_c I240 J371 (I240.up h_o0) (k := 22) rfl)
              have z389 := (rv_c I240 J371 (I240.up h_o0) (k := 24) rfl)
              have z390 := (rv_c I240 J371 (I240.up h_o0) (k := 27) rfl).trans z254
              have z391 := (rv_c I240 J371 (I240.up h_o0) (k := 32) rfl).trans z255
              have z392 := (rv_c I240 J371 (I240.up h_o0) (k := 49) rfl).trans z256
              have e393 : p_nea pb pn = s264 := (by first | exact p_nea_f e58 (pW1 (Im.o d96) (by omega)) e265 (by omega) | exact p_nea_o e58 (pW1 (Im.o d96) (by omega)) e265 (by have := f249.s0 (by omega) (by omega); have := pW1 (Im.o d96) (by omega); have := Z995.wk; omega))
              have z1 : (p_nea pb pn).1 = s264.1 := by rw [e393]
              have z3 : (p_nea pb pn).2.1 = s264.2.1 := by rw [e393]
              have K394 : aA M368 o0 (rv M0 o0 27) fr va := K260.stop (t := (32 + v29).toNatClampNeg) (z := rv M236 o0 19) R242 (by have := mz_nat9 (i := (32 + v29)) (by have := R242.1 15 _ _ rfl; have := R242.1 16 _ _ rfl; have := R242.1 19 _ _ rfl; omega); have := R242.1 15 _ _ rfl; have := R242.1 16 _ _ rfl; have := R242.1 19 _ _ rfl; omega) (fun h9 => ((Im.o f377) h9).2) (fun h9 => ⟨((Im.o f378) h9).2.2.1, ((Im.o f378) h9).2.2.2.1⟩) f382 (sA_c I240 J371 (I240.up h_o0) (by decide +kernel))
              have K395 : (v375.toInt < 0 → rC M368 o0 44) ∧ (0 ≤ v375.toInt → rC M368 o0 ((32 + v29).toNatClampNeg)) := rC.st K259 R242 K261 (by have := mz_nat9 (i := (32 + v29)) (by have := R242.1 15 _ _ rfl; have := R242.1 16 _ _ rfl; have := R242.1 19 _ _ rfl; omega); have := R242.1 15 _ _ rfl; have := R242.1 16 _ _ rfl; have := R242.1 19 _ _ rfl; omega) (by unfold rU; have := mz_nat9 (i := (32 + v29)) (by have := R242.1 15 _ _ rfl; have := R242.1 16 _ _ rfl; have := R242.1 19 _ _ rfl; omega); have := R242.1 15 _ _ rfl; have := R242.1 16 _ _ rfl; have := R242.1 19 _ _ rfl; omega) f377 f378 (sA_c I240 J371 (I240.up h_o0) (by decide)) (sF_c I240 J371 (I240.up h_o0) (by decide))
              have K396 : 0 ≤ v375.toInt → ra M368 o0 7 (20 * (32 + v29).toNatClampNeg) = 8 := k8_of f377 f378 K263
              have g397 := Im.i (tl_st (tl_ge (R242.1 19 _ _ rfl) f249.w) f380 f381)
              clear f380 f381
              clear z254 z255 z256
              have q398 := J371.keep t253 (by decide) q266
              have q399 := J371.keep t253 (by decide) q267
              have q400 := J371.keep t253 (by decide) q269
              have q401 := J371.keep t253 (by decide) q364
              refine mv_istore_n (lv' := [(2, .int v375), (0, .ref o0), (1, .int x1)]) d_TrustDeskModel_near_85 rfl (by decide) rfl ?_
              refine mv_iload_n d_TrustDeskModel_near_86 rfl rfl ?_
              have := mz_hi v375
              refine mv_if_geZ (tgt := 92) (a := v375.toInt) d_TrustDeskModel_near_87 (by decide) rfl (fun b402 => ?_) (fun b402 => ?_)
              · have K403 : rC M368 o0 ((32 + v29).toNatClampNeg) := K395.2 (by omega)
                obtain ⟨g404, g405⟩ := (Im.o g397).1 (by omega)
                refine mv_aload_n d_TrustDeskModel_near_92 rfl rfl ?_
                obtain ⟨a408, q407, t_a408⟩ := tm_atR I372 t383 (k := 50) rfl
                refine tr_getK q407 d_TrustDeskModel_near_93 f_TrustDeskModel_116_13 ?_
                refine mv_aload_n d_TrustDeskModel_near_96 rfl rfl ?_
                refine tr_getK (k := 49) q399 d_TrustDeskModel_near_97 f_TrustDeskModel_435_13 ?_
                refine mv_iload_n d_TrustDeskModel_near_100 rfl rfl ?_
                refine tr_iastR (k := 50) I372 R376 (I372.up h_o0) q407 t_a408 (by decide) (by decide) (fun lo hi h => by cases h) (Or.inl (by decide)) d_TrustDeskModel_near_101 (vp_in_iff.mpr (by have := R376.1 15 _ _ rfl; have := R376.1 16 _ _ rfl; have := R376.1 19 _ _ rfl; omega)) (fun M409 I410 K411 R412 E413 A414 V415 => ?_)
                have z416 := (V415 15).trans z384
                have z417 := (V415 16).trans z385
                have z418 := (V415 17).trans z386
                have z419 := (V415 19).trans z387
                have z420 := (V415 22).trans z388
                have z421 := (V415 24).trans z389
                have z422 := (V415 27).trans z390
                have z423 := (V415 32).trans z391
                have z424 := (V415 49).trans z392
                have z425 := (V415 14)
                have z426 := (V415 21)
                have z427 := (A414 5 (by decide) rfl 44)
                have z428 := (A414 6 (by decide) rfl 44)
                have K429 : aA M409 o0 (rv M0 o0 27) fr va := K394.same (sA_a A414 (by decide +kernel))
                have K430 : 0 ≤ v375.toInt → ra M409 o0 7 (20 * (32 + v29).toNatClampNeg) = 8 := (by have e1 := ((sA_a A414 (by decide +kernel)) : sA [7] _ _ _) 7 rfl; rw [e1]; exact K396)
                have K431 : rC M409 o0 ((32 + v29).toNatClampNeg) := K403.same (sA_a A414 (by decide +kernel)) (sF_a V415)
                clear z384 z385 z386 z388 z389 z390 z391 z392
                refine mv_aload_n d_TrustDeskModel_near_102 rfl rfl ?_
                refine mv_dup d_TrustDeskModel_near_103 rfl ?_
                refine tr_getK (k := 49) (K411 _ 13 49 _ q399) d_TrustDeskModel_near_104 f_TrustDeskModel_435_13 ?_
                refine mv_iconst (v := 1) d_TrustDeskModel_near_107 (by decide) ?_
                refine mv_iadd d_TrustDeskModel_near_108 ?_
                have b432 : (v29 + 1 : Int32).toInt = (v29.toInt + 1) := mz_add2 rfl (by decide) (by have := R412.1 15 _ _ rfl; have := R412.1 16 _ _ rfl; have := R412.1 19 _ _ rfl; omega) (by have := R412.1 15 _ _ rfl; have := R412.1 16 _ _ rfl; have := R412.1 19 _ _ rfl; omega)
                refine tr_putR (k := 49) I410 R412 t383 rfl ⟨_, rfl⟩ (fun _ h => by cases h) rfl (fun lo hi h => by cases h; have := R412.1 15 _ _ rfl; have := R412.1 16 _ _ rfl; have := R412.1 19 _ _ rfl; exact ⟨by show (0 : Int) ≤ (v29 + 1).toInt; omega, by show (v29 + 1).toInt ≤ (12 : Int); omega⟩) (Or.inl (by decide)) d_TrustDeskModel_near_109 p_TrustDeskModel_435_13 rfl rfl (fun M433 I434 q435 K436 R437 A438 V439 => ?_)
                have z440 := (V439 15 (by decide)).trans z416
                have z441 := (V439 16 (by decide)).trans z417
                have z442 := (V439 17 (by decide)).trans z418
                have z443 := (V439 19 (by decide)).trans z419
                have z444 := (V439 22 (by decide)).trans z420
                have z445 := (V439 24 (by decide)).trans z421
                have z446 := (V439 27 (by decide)).trans z422
                have z447 := (V439 32 (by decide)).trans z423
                have z448 := (V439 14 (by decide)).trans z425
                have z449 := (V439 21 (by decide)).trans z426
                have z450 := (A438 5 (by decide) 44).trans z427
                have z451 := (A438 6 (by decide) 44).trans z428
                have z452 : rv M433 o0 49 = (v29 + 1).toInt := tm_rv q435
                have K453 : aA M433 o0 (rv M0 o0 27) fr va := K429.same (sA_f A438 (by decide))
                have K454 : 0 ≤ v375.toInt → ra M433 o0 7 (20 * (32 + v29).toNatClampNeg) = 8 := (by have e1 := ((sA_f A438 (by decide)) : sA [7] _ _ _) 7 rfl; rw [e1]; exact K430)
                have K455 : rC M433 o0 44 := rC.near K431 A438 V439 (by have := mz_nat9 (i := (32 + v29)) (by have := R412.1 15 _ _ rfl; have := R412.1 16 _ _ rfl; have := R412.1 19 _ _ rfl; omega); have := R412.1 15 _ _ rfl; have := R412.1 16 _ _ rfl; have := R412.1 19 _ _ rfl; omega) (by have := R412.1 15 _ _ rfl; have := R412.1 16 _ _ rfl; have := R412.1 19 _ _ rfl; omega) (by have := R412.1 15 _ _ rfl; have := R412.1 16 _ _ rfl; have := R412.1 19 _ _ rfl; omega) (K430 (by omega))
                clear z416 z417 z418 z420 z421 z422 z423 z425 z426 z427 z428
                refine mv_aload_n d_TrustDeskModel_near_112 rfl rfl ?_
                refine tr_getK (k := 49) q435 d_TrustDeskModel_near_113 f_TrustDeskModel_435_13 ?_
                refine mv_iconst (v := 1) d_TrustDeskModel_near_116 (by decide) ?_
                refine mv_isubv (v := v29) d_TrustDeskModel_near_117 (Int32.add_sub_cancel _ _) ?_
                exact mv_iret d_TrustDeskModel_near_118 rfl (by first | rfl | decide) ⟨_, I434, _, rfl, R437, K455, (by have := R437.1 15 _ _ rfl; have := R437.1 16 _ _ rfl; have := R437.1 19 _ _ rfl; omega), (Or.inr ⟨Im.o hG, by omega, Or.inl ⟨by omega, by omega, by omega, by omega⟩⟩), K453⟩
              · have K456 : rC M368 o0 44 := K395.1 (by omega)
                obtain ⟨g457, g458, g459⟩ := (Im.o g397).2 (by omega)
                refine mv_iload_n d_TrustDeskModel_near_90 rfl rfl ?_
                exact mv_iret d_TrustDeskModel_near_91 rfl (by first | rfl | decide) ⟨_, I372, _, rfl, R376, K456, (by have := R376.1 15 _ _ rfl; have := R376.1 16 _ _ rfl; have := R376.1 19 _ _ rfl; omega), (Or.inr ⟨Im.o hG, by omega, Or.inr ⟨by omega, by omega, by omega, by omega⟩⟩), K394⟩
            · refine mv_aload_n d_TrustDeskModel_near_69 rfl rfl ?_
              refine mv_iconst (v := 1) d_TrustDeskModel_near_70 (by decide) ?_
              obtain ⟨_, b466, -⟩ := I240.1 _ _ t253
              have : (1 : Int32).toInt = 1 := by decide
              refine mv_callV (kc' := 0) (ks' := 0) (As := [.int 1]) (st9 := [.int 1, .ref o0]) d_TrustDeskModel_near_71 lV_TrustDeskModel_240 b466 rfl (tc_TrustDeskModel_fails_x (d := (d + 26)) (x9 := x9) (o0 := o0) (x1 := 1) t253 R242 (by decide) f249 I240.start) rfl (Nat.le_of_ble_eq_true rfl) (Nat.le_of_ble_eq_true rfl) (Nat.le_of_ble_eq_true rfl) (hst := rfl) (fun b460r M461 n462 b460 => ?_)
              obtain ⟨T463, J464, rfl, R467, f468, f469⟩ := b460
              have I465 := I240.call J464 (tm_sub (by decide)) (Or.inl rfl)
              have t470 := J464.up t253
              have z471 := (rv_c I240 J464 (I240.up h_o0) (k := 15) rfl)
              have z472 := (rv_c I240 J464 (I240.up h_o0) (k := 16) rfl)
              have z473 := (rv_c I240 J464 (I240.up h_o0) (k := 17) rfl)
              have z474 := (rv_c I240 J464 (I240.up h_o0) (k := 22) rfl)
              have z475 := (rv_c I240 J464 (I240.up h_o0) (k := 24) rfl)
              have z476 := (rv_c I240 J464 (I240.up h_o0) (k := 27) rfl).trans z254
              have z477 := (rv_c I240 J464 (I240.up h_o0) (k := 32) rfl).trans z255
              have z478 := (rv_c I240 J464 (I240.up h_o0) (k := 49) rfl).trans z256
              have z479 := (rv_c I240 J464 (I240.up h_o0) (k := 14) rfl).trans z257
              have z480 := (rv_c I240 J464 (I240.up h_o0) (k := 21) rfl).trans z258
              have z481 := (ra_call I240 J464 (I240.up h_o0) (k := 5) rfl rfl rfl 44)
              have z482 := (ra_call I240 J464 (I240.up h_o0) (k := 6) rfl rfl rfl 44)
              have K483 : rC M461 o0 44 := K259.same (sA_c I240 J464 (I240.up h_o0) (by decide +kernel)) (sF_c I240 J464 (I240.up h_o0) (by decide +kernel))
              have K484 : aA M461 o0 (rv M0 o0 27) fr va := K260.same (sA_c I240 J464 (I240.up h_o0) (by decide +kernel))
              have K485 : rW M461 o0 := K261.fail (sF_c I240 J464 (I240.up h_o0) (by decide)) f468
              have K486 : rv M461 o0 19 = 0 → ra M461 o0 7 880 = 8 ∧ ra M461 o0 6 44 = 1 := (fun h9 => absurd h9 f468)
              rw [show (1 : Int32).toInt = 1 from by decide] at f469
              obtain ⟨s487, e488⟩ : ∃ s9 : p_S, p_fl pb pn 1 s264 = s9 := ⟨_, rfl⟩
              rw [e488] at f469
              have := f469.w
              clear z254 z255 z256 z257 z258
              have q489 := J464.keep t253 (by decide) q266
              have q490 := J464.keep t253 (by decide) q267
              have q491 := J464.keep t253 (by decide) q364
              refine mv_aload_n d_TrustDeskModel_near_74 rfl rfl ?_
              refine mv_bipush (v := 32) d_TrustDeskModel_near_75 (by decide) ?_
              refine mv_aload_n d_TrustDeskModel_near_77 rfl rfl ?_
              refine tr_getK (k := 49) q490 d_TrustDeskModel_near_78 f_TrustDeskModel_435_13 ?_
              refine mv_iadd d_TrustDeskModel_near_81 ?_
              obtain ⟨_, b498, -⟩ := I465.1 _ _ t470
              have b499 : (32 + v29 : Int32).toInt = (32 + v29.toInt) := mz_add2 (by decide) rfl (by have := R467.1 15 _ _ rfl; have := R467.1 16 _ _ rfl; have := R467.1 19 _ _ rfl; omega) (by have := R467.1 15 _ _ rfl; have := R467.1 16 _ _ rfl; have := R467.1 19 _ _ rfl; omega)
              refine mv_callV (kc' := 0) (ks' := 0) (As := [.int (32 + v29)]) (st9 := [.int (32 + v29), .ref o0]) d_TrustDeskModel_near_82 lV_TrustDeskModel_388 b498 rfl (tc_TrustDeskModel_stops_a (d := (d + 25)) (x9 := x9) (o0 := o0) (x1 := (32 + v29)) t470 R467 (by have := R467.1 15 _ _ rfl; have := R467.1 16 _ _ rfl; have := R467.1 19 _ _ rfl; omega) f469 I465.start) rfl (Nat.le_of_ble_eq_true rfl) (Nat.le_of_ble_eq_true rfl) (Nat.le_of_ble_eq_true rfl) (hst := rfl) (fun b492r M493 n494 b492 => ?_)
              obtain ⟨T495, J496, v500, rfl, R501, f502, f503, f504, f505, f506, f507⟩ := b492
              have I497 := I465.call J496 (tm_sub (by decide)) (Or.inl rfl)
              have t508 := J496.up t470
              replace f502 := Im.i f502
              replace f503 := Im.i f503
              have z509 := (rv_c I465 J496 (I465.up h_o0) (k := 15) rfl).trans z471
              have z510 := (rv_c I465 J496 (I465.up h_o0) (k := 16) rfl).trans z472
              have z511 := (rv_c I465 J496 (I465.up h_o0) (k := 17) rfl).trans z473
              have z512 := (rv_c I465 J496 (I465.up h_o0) (k := 19) rfl)
              have z513 := (rv_c I465 J496 (I465.up h_o0) (k := 22) rfl).trans z474
              have z514 := (rv_c I465 J496 (I465.up h_o0) (k := 24) rfl).trans z475
              have z515 := (rv_c I465 J496 (I465.up h_o0) (k := 27) rfl).trans z476
              have z516 := (rv_c I465 J496 (I465.up h_o0) (k := 32) rfl).trans z477
              have z517 := (rv_c I465 J496 (I465.up h_o0) (k := 49) rfl).trans z478
              have e518 : p_nea pb pn = s487 := (p_nea_m e58 (pW1 (Im.o d96) (by omega)) e265 (by omega) (by have := f249.n0 (by omega) (by omega); have := pW1 (Im.o d96) (by omega); have := Z995.wk; omega) e488)
              have z1 : (p_nea pb pn).1 = s487.1 := by rw [e518]
              have z3 : (p_nea pb pn).2.1 = s487.2.1 := by rw [e518]
              have K519 : aA M493 o0 (rv M0 o0 27) fr va := K484.stop (t := (32 + v29).toNatClampNeg) (z := rv M461 o0 19) R467 (by have := mz_nat9 (i := (32 + v29)) (by have := R467.1 15 _ _ rfl; have := R467.1 16 _ _ rfl; have := R467.1 19 _ _ rfl; omega); have := R467.1 15 _ _ rfl; have := R467.1 16 _ _ rfl; have := R467.1 19 _ _ rfl; omega) (fun h9 => ((Im.o f502) h9).2) (fun h9 => ⟨((Im.o f503) h9).2.2.1, ((Im.o f503) h9).2.2.2.1⟩) f507 (sA_c I465 J496 (I465.up h_o0) (by decide +kernel))
              have K520 : (v500.toInt < 0 → rC M493 o0 44) ∧ (0 ≤ v500.toInt → rC M493 o0 ((32 + v29).toNatClampNeg)) := rC.st K483 R467 K485 (by have := mz_nat9 (i := (32 + v29)) (by have := R467.1 15 _ _ rfl; have := R467.1 16 _ _ rfl; have := R467.1 19 _ _ rfl; omega); have := R467.1 15 _ _ rfl; have := R467.1 16 _ _ rfl; have := R467.1 19 _ _ rfl; omega) (by unfold rU; have := mz_nat9 (i := (32 + v29)) (by have := R467.1 15 _ _ rfl; have := R467.1 16 _ _ rfl; have := R467.1 19 _ _ rfl; omega); have := R467.1 15 _ _ rfl; have := R467.1 16 _ _ rfl; have := R467.1 19 _ _ rfl; omega) f502 f503 (sA_c I465 J496 (I465.up h_o0) (by decide)) (sF_c I465 J496 (I465.up h_o0) (by decide))
              have K521 : 0 ≤ v500.toInt → ra M493 o0 7 (20 * (32 + v29).toNatClampNeg) = 8 := k8_of f502 f503 K486
              have g522 := Im.i (tl_st (tl_ge (R467.1 19 _ _ rfl) f469.w) f505 f506)
              clear f505 f506
              clear z471 z472 z473 z474 z475 z476 z477 z478
              have q523 := J496.keep t470 (by decide) q489
              have q524 := J496.keep t470 (by decide) q490
              have q525 := J496.keep t470 (by decide) q491
              refine mv_istore_n (lv' := [(2, .int v500), (0, .ref o0), (1, .int x1)]) d_TrustDeskModel_near_85 rfl (by decide) rfl ?_
              refine mv_iload_n d_TrustDeskModel_near_86 rfl rfl ?_
              have := mz_hi v500
              refine mv_if_geZ (tgt := 92) (a := v500.toInt) d_TrustDeskModel_near_87 (by decide) rfl (fun b526 => ?_) (fun b526 => ?_)
              · have K527 : rC M493 o0 ((32 + v29).toNatClampNeg) := K520.2 (by omega)
                obtain ⟨g528, g529⟩ := (Im.o g522).1 (by omega)
                refine mv_aload_n d_TrustDeskModel_near_92 rfl rfl ?_
                obtain ⟨a532, q531, t_a532⟩ := tm_atR I497 t508 (k := 50) rfl
                refine tr_getK q531 d_TrustDeskModel_near_93 f_TrustDeskModel_116_13 ?_
                refine mv_aload_n d_TrustDeskModel_near_96 rfl rfl ?_
                refine tr_getK (k := 49) q524 d_TrustDeskModel_near_97 f_TrustDeskModel_435_13 ?_
                refine mv_iload_n d_TrustDeskModel_near_100 rfl rfl ?_
                refine tr_iastR (k := 50) I497 R501 (I497.up h_o0) q531 t_a532 (by decide) (by decide) (fun lo hi h => by cases h) (Or.inl (by decide)) d_TrustDeskModel_near_101 (vp_in_iff.mpr (by have := R501.1 15 _ _ rfl; have := R501.1 16 _ _ rfl; have := R501.1 19 _ _ rfl; omega)) (fun M533 I534 K535 R536 E537 A538 V539 => ?_)
                have z540 := (V539 15).trans z509
                have z541 := (V539 16).trans z510
                have z542 := (V539 17).trans z511
                have z543 := (V539 19).trans z512
                have z544 := (V539 22).trans z513
                have z545 := (V539 24).trans z514
                have z546 := (V539 27).trans z515
                have z547 := (V539 32).trans z516
                have z548 := (V539 49).trans z517
                have z549 := (V539 14)
                have z550 := (V539 21)
                have z551 := (A538 5 (by decide) rfl 44)
                have z552 := (A538 6 (by decide) rfl 44)
                have K553 : aA M533 o0 (rv M0 o0 27) fr va := K519.same (sA_a A538 (by decide +kernel))
                have K554 : 0 ≤ v500.toInt → ra M533 o0 7 (20 * (32 + v29).toNatClampNeg) = 8 := (by have e1 := ((sA_a A538 (by decide +kernel)) : sA [7] _ _ _) 7 rfl; rw [e1]; exact K521)
                have K555 : rC M533 o0 ((32 + v29).toNatClampNeg) := K527.same (sA_a A538 (by decide +kernel)) (sF_a V539)
                clear z509 z510 z511 z513 z514 z515 z516 z517
                refine mv_aload_n d_TrustDeskModel_near_102 rfl rfl ?_
                refine mv_dup d_TrustDeskModel_near_103 rfl ?_
                refine tr_getK (k := 49) (K535 _ 13 49 _ q524) d_TrustDeskModel_near_104 f_TrustDeskModel_435_13 ?_
                refine mv_iconst (v := 1) d_TrustDeskModel_near_107 (by decide) ?_
                refine mv_iadd d_TrustDeskModel_near_108 ?_
                have b556 : (v29 + 1 : Int32).toInt = (v29.toInt + 1) := mz_add2 rfl (by decide) (by have := R536.1 15 _ _ rfl; have := R536.1 16 _ _ rfl; have := R536.1 19 _ _ rfl; omega) (by have := R536.1 15 _ _ rfl; have := R536.1 16 _ _ rfl; have := R536.1 19 _ _ rfl; omega)
                refine tr_putR (k := 49) I534 R536 t508 rfl ⟨_, rfl⟩ (fun _ h => by cases h) rfl (fun lo hi h => by cases h; have := R536.1 15 _ _ rfl; have := R536.1 16 _ _ rfl; have := R536.1 19 _ _ rfl; exact ⟨by show (0 : Int) ≤ (v29 + 1).toInt; omega, by show (v29 + 1).toInt ≤ (12 : Int); omega⟩) (Or.inl (by decide)) d_TrustDeskModel_near_109 p_TrustDeskModel_435_13 rfl rfl (fun M557 I558 q559 K560 R561 A562 V563 => ?_)
                have z564 := (V563 15 (by decide)).trans z540
                have z565 := (V563 16 (by decide)).trans z541
                have z566 := (V563 17 (by decide)).trans z542
                have z567 := (V563 19 (by decide)).trans z543
                have z568 := (V563 22 (by decide)).trans z544
                have z569 := (V563 24 (by decide)).trans z545
                have z570 := (V563 27 (by decide)).trans z546
                have z571 := (V563 32 (by decide)).trans z547
                have z572 := (V563 14 (by decide)).trans z549
                have z573 := (V563 21 (by decide)).trans z550
                have z574 := (A562 5 (by decide) 44).trans z551
                have z575 := (A562 6 (by decide) 44).trans z552
                have z576 : rv M557 o0 49 = (v29 + 1).toInt := tm_rv q559
                have K577 : aA M557 o0 (rv M0 o0 27) fr va := K553.same (sA_f A562 (by decide))
                have K578 : 0 ≤ v500.toInt → ra M557 o0 7 (20 * (32 + v29).toNatClampNeg) = 8 := (by have e1 := ((sA_f A562 (by decide)) : sA [7] _ _ _) 7 rfl; rw [e1]; exact K554)
                have K579 : rC M557 o0 44 := rC.near K555 A562 V563 (by have := mz_nat9 (i := (32 + v29)) (by have := R536.1 15 _ _ rfl; have := R536.1 16 _ _ rfl; have := R536.1 19 _ _ rfl; omega); have := R536.1 15 _ _ rfl; have := R536.1 16 _ _ rfl; have := R536.1 19 _ _ rfl; omega) (by have := R536.1 15 _ _ rfl; have := R536.1 16 _ _ rfl; have := R536.1 19 _ _ rfl; omega) (by have := R536.1 15 _ _ rfl; have := R536.1 16 _ _ rfl; have := R536.1 19 _ _ rfl; omega) (K554 (by omega))
                clear z540 z541 z542 z544 z545 z546 z547 z549 z550 z551 z552
                refine mv_aload_n d_TrustDeskModel_near_112 rfl rfl ?_
                refine tr_getK (k := 49) q559 d_TrustDeskModel_near_113 f_TrustDeskModel_435_13 ?_
                refine mv_iconst (v := 1) d_TrustDeskModel_near_116 (by decide) ?_
                refine mv_isubv (v := v29) d_TrustDeskModel_near_117 (Int32.add_sub_cancel _ _) ?_
                exact mv_iret d_TrustDeskModel_near_118 rfl (by first | rfl | decide) ⟨_, I558, _, rfl, R561, K579, (by have := R561.1 15 _ _ rfl; have := R561.1 16 _ _ rfl; have := R561.1 19 _ _ rfl; omega), (Or.inr ⟨Im.o hG, by omega, Or.inl ⟨by omega, by omega, by omega, by omega⟩⟩), K577⟩
              · have K580 : rC M493 o0 44 := K520.1 (by omega)
                obtain ⟨g581, g582, g583⟩ := (Im.o g522).2 (by omega)
                refine mv_iload_n d_TrustDeskModel_near_90 rfl rfl ?_
                exact mv_iret d_TrustDeskModel_near_91 rfl (by first | rfl | decide) ⟨_, I497, _, rfl, R501, K580, (by have := R501.1 15 _ _ rfl; have := R501.1 16 _ _ rfl; have := R501.1 19 _ _ rfl; omega), (Or.inr ⟨Im.o hG, by omega, Or.inr ⟨by omega, by omega, by omega, by omega⟩⟩), K519⟩
      · refine mv_iconst (v := (-1)) d_TrustDeskModel_near_26 (by decide) ?_
        exact mv_iret d_TrustDeskModel_near_27 rfl (by first | rfl | decide) ⟨_, I4, _, rfl, R7, K23, (by have := R7.1 15 _ _ rfl; have := R7.1 16 _ _ rfl; have := R7.1 19 _ _ rfl; omega), (Or.inl ⟨by decide, by omega, z19, z20, z18⟩), K24⟩
