def w_TrustDeskModel_readRule_aB : List Nat := [1315, 1316, 1317, 1318, 1319, 1320, 1322, 20004, 20005, 20006, 20007, 20008, 20010, 20011, 20012]
set_option maxHeartbeats 100000000 in theorem tc_TrustDeskModel_readRule_aB {g : mj_G} {l : Launch} {d : Nat} {T0 : tm_H} {M0 : mj_M} {n0 x9 : Nat} {o0 : Nat} (h_o0 : T0 o0 = some (0, 13, 0)) (yR : rI M0 o0) (yWW : rW M0 o0) (yw : rv M0 o0 19 = 0) (yo : rv M0 o0 17 ≠ 0) (yq : rv M0 o0 22 = 0) {pb : Nat → Int} {pn : Nat} {pa : Int} {ps : p_S} (yO : pO M0 o0 pb pn pa ps) {pc9 : Nat} (yk : ra M0 o0 6 44 = (pc9 : Int)) (yB : p_wi pb pn ps.2.2 = 23) (I0 : tm_I tm_FT (tm_in w_TrustDeskModel_readRule_aB) x9 T0 M0 n0 T0 M0 n0) : mj_Met g l kY_TrustDeskModel_readRule (d + 25) [.ref o0] M0 n0 0 0 (tm_Q tm_FT (tm_in w_TrustDeskModel_readRule_aB) x9 T0 M0 n0 (fun r _ M => r = none ∧ rI M o0 ∧ (rW M o0) ∧ (rO M0 M o0) ∧ (rv M0 o0 16 ≤ rv M o0 16 ∧ (rv M o0 19 = 0 → rv M0 o0 16 < rv M o0 16)) ∧ (rv M o0 19 = 0 → rv M o0 22 = 0) ∧ (pO M o0 pb pn pa (p_rul pb pn pa pc9 ps)) ∧ (rv M o0 19 = 0 → ra M o0 6 44 = (pc9 : Int) + 1) ∧ (∀ i : Nat, i ≠ 44 → ra M o0 6 i = ra M0 o0 6 i) ∧ (rK M0 M o0 (880 + ra M0 o0 6 44).toNat) ∧ (rv M o0 19 = 0 → rwA M o0 (880 + ra M0 o0 6 44).toNat pb pn ps.2.2))) := by
  refine mj_enter (by decide) (Nat.le_of_ble_eq_true rfl) ?_
  have yT := yWW.1
  have yS : rv M0 o0 19 = 0 → ra M0 o0 5 44 ≤ rv M0 o0 16 := fun h9 => (yWW.2 h9).1
  have yG := (yWW.2 yw).2
  have yN := yG.2.2
  have := yR.2 6 _ _ rfl 44
  have yE0 := rE.rf yT
  have K1 : rK M0 M0 o0 ((880 + ra M0 o0 6 44).toNat) := rK.rf
  have K2 : nN M0 o0 := yN
  have K3 : ∀ i : Nat, i ≠ 44 → ra M0 o0 6 i = ra M0 o0 6 i := (fun _ _ => rfl)
  have := yO.w
  refine mv_aload_n d_TrustDeskModel_readRule_0 rfl rfl ?_
  obtain ⟨_, b10, -⟩ := I0.1 _ _ h_o0
  refine mv_callV (kc' := 0) (ks' := 0) (As := []) (st9 := [.ref o0]) d_TrustDeskModel_readRule_1 lV_TrustDeskModel_365 b10 rfl (tc_TrustDeskModel_ruleWord_x (d := (d + 19)) (x9 := x9) (o0 := o0) h_o0 yR yO (by have := yR.1 15 _ _ rfl; have := yR.1 16 _ _ rfl; have := yR.1 19 _ _ rfl; omega) I0.start) rfl (Nat.le_of_ble_eq_true rfl) (Nat.le_of_ble_eq_true rfl) (Nat.le_of_ble_eq_true rfl) (hst := rfl) (fun b4r M5 n6 b4 => ?_)
  obtain ⟨T7, J8, v11, rfl, R12, f13, f14⟩ := b4
  have I9 := I0.call J8 (tm_sub (by decide)) (Or.inl rfl)
  have t15 := J8.up h_o0
  have z16 := (rv_c I0 J8 (I0.up h_o0) (k := 15) rfl)
  have z17 := (rv_c I0 J8 (I0.up h_o0) (k := 16) rfl)
  have z18 := (rv_c I0 J8 (I0.up h_o0) (k := 17) rfl)
  have z19 := (rv_c I0 J8 (I0.up h_o0) (k := 19) rfl)
  have z20 := (rv_c I0 J8 (I0.up h_o0) (k := 22) rfl)
  have z21 := (rv_c I0 J8 (I0.up h_o0) (k := 24) rfl)
  have z22 := (ra_call I0 J8 (I0.up h_o0) (k := 5) rfl rfl rfl 44)
  have z23 := (ra_call I0 J8 (I0.up h_o0) (k := 6) rfl rfl rfl 44)
  have E24 : rE M0 M5 o0 0 0 := yE0.same (rE_hv I0 J8 (I0.up h_o0) 15 19 (by decide)) (rE_ha I0 J8 (I0.up h_o0) (by decide))
  have K25 : rK M0 M5 o0 ((880 + ra M0 o0 6 44).toNat) := K1.same (sA_c I0 J8 (I0.up h_o0) (by decide +kernel))
  have K26 : nN M5 o0 := K2.same (sA_c I0 J8 (I0.up h_o0) (by decide +kernel)) (sF_c I0 J8 (I0.up h_o0) (by decide +kernel))
  have K27 : ∀ i : Nat, i ≠ 44 → ra M5 o0 6 i = ra M0 o0 6 i := (by have e9 := ((sA_c I0 J8 (I0.up h_o0) (by decide +kernel)) : sA [6] _ _ _) 6 rfl; rw [e9]; exact K3)
  have Z928 : pO M5 o0 pb pn pa ps := yO.same (rE_hv I0 J8 (I0.up h_o0) 14 20 (by decide)) (rv_c I0 J8 (I0.up h_o0) (k := 23) rfl) (ra_call I0 J8 (I0.up h_o0) (k := 13) rfl rfl rfl)
  refine mv_istore_n (lv' := [(1, .int v11), (0, .ref o0)]) d_TrustDeskModel_readRule_4 rfl (by decide) rfl ?_
  refine mv_iload_n d_TrustDeskModel_readRule_5 rfl rfl ?_
  refine mv_iconst (v := (-1)) d_TrustDeskModel_readRule_6 (by decide) ?_
  have := mz_hi v11
  refine mv_icmp_neZ (tgt := 18) (a := v11.toInt) (b := (-1)) d_TrustDeskModel_readRule_7 (by decide) rfl (by decide) (fun b29 => ?_) (fun b29 => by exfalso; omega)
  refine mv_aload_n d_TrustDeskModel_readRule_18 rfl rfl ?_
  obtain ⟨a31, q30, t_a31⟩ := tm_atR I9 t15 (k := 6) rfl
  refine tr_getK q30 d_TrustDeskModel_readRule_19 f_TrustDeskModel_23_13 ?_
  refine mv_bipush (v := 44) d_TrustDeskModel_readRule_22 (by decide) ?_
  refine tr_ialdR (o := o0) (k := 6) I9 q30 t_a31 (by decide) d_TrustDeskModel_readRule_24 (by unfold vp_in; decide) (fun v32 e33 => ?_)
  have := R12.a (k := 6) rfl (44 : Int32).toNatClampNeg
  have : v32.toInt = ra M5 o0 6 44 := e33
  have : v32.toInt = _ := Eq.trans e33 z23
  refine mv_bipush (v := 20) d_TrustDeskModel_readRule_25 (by decide) ?_
  have := mz_hi v32
  refine mv_icmp_neZ (tgt := 35) (a := v32.toInt) (b := 20) d_TrustDeskModel_readRule_27 (by decide) rfl (by decide) (fun b34 => ?_) (fun b34 => ?_)
  · refine mv_aload_n d_TrustDeskModel_readRule_35 rfl rfl ?_
    obtain ⟨_, b35, -⟩ := I9.1 _ _ t15
    refine mv_callV (kc1 := 0) (ks1 := 0) (kc' := 0) (ks' := 0) (As := []) (st9 := [.ref o0]) d_TrustDeskModel_readRule_36 lV_TrustDeskModel_230 b35 rfl (mj_enter (by decide) (Nat.le_of_ble_eq_true rfl) ?_) rfl (Nat.le_of_ble_eq_true rfl) (Nat.le_of_ble_eq_true rfl) (Nat.le_of_ble_eq_true rfl) (hst := rfl) (fun _ _ _ h => h)
    refine mv_aload_n d_TrustDeskModel_isWell_0 rfl rfl ?_
    obtain ⟨v37, q36⟩ := tm_atI I9 t15 (k := 19) rfl
    refine tr_getK q36 d_TrustDeskModel_isWell_1 f_TrustDeskModel_224_13 ?_
    have := R12.f (k := 19) q36 rfl
    have := (tm_rv q36).symm.trans z19
    have := tm_rv q36
    have := mz_hi v37
    refine mv_if_neZ (tgt := 11) (a := v37.toInt) d_TrustDeskModel_isWell_4 (by decide) rfl (fun b38 => ?_) (fun b38 => ?_)
    · refine mv_iconst (v := 0) d_TrustDeskModel_isWell_11 (by decide) ?_
      refine mv_iret d_TrustDeskModel_isWell_12 rfl (by decide) ?_
      refine mv_if_ne_f (tgt := 43) d_TrustDeskModel_readRule_39 (by decide) (by decide) ?_
      exact mv_vret d_TrustDeskModel_readRule_42 rfl ⟨_, I9, rfl, R12, (rW.of E24.1 (E24.s yS (by decide)) (fun w9 => by skip; exact rG.step yG yR E24 w9 K25 (by have := yR.2 6 _ _ rfl 44; omega) (by have := R12.1 15 _ _ rfl; have := R12.1 16 _ _ rfl; have := R12.1 19 _ _ rfl; omega) (by have := R12.1 15 _ _ rfl; have := R12.1 16 _ _ rfl; have := R12.1 19 _ _ rfl; omega) (fun h9 => by exfalso; have := R12.1 15 _ _ rfl; have := R12.1 16 _ _ rfl; have := R12.1 19 _ _ rfl; omega) (fun h9 => (by have := R12.1 15 _ _ rfl; have := R12.1 16 _ _ rfl; have := R12.1 19 _ _ rfl; omega)) (by have := R12.1 15 _ _ rfl; have := R12.1 16 _ _ rfl; have := R12.1 19 _ _ rfl; omega) K26)), (rO.of E24 K25 (by have := yR.2 6 _ _ rfl 44; omega)), ⟨E24.2.1, fun w9 => by skip; have := E24.w2 w9; omega⟩, (fun w9 => by skip; omega), (by first | (rw [show p_rul pb pn pa pc9 ps = ps from (by unfold p_rul; unfold p_bar; (try simp only [eq_self]); ((repeat' (first | (with_reducible rfl) | split)) <;> (first | ((try simp only [eq_self]); done) | ((try simp only [eq_self]); first | exact p_sg_Z _ (by omega) | exact (p_sg_Z _ (by omega)).symm | omega) | (exfalso; omega))))]; exact Z928) | (exfalso; have := R12.1 15 _ _ rfl; have := R12.1 16 _ _ rfl; have := R12.1 19 _ _ rfl; omega)), (fun w9 => by skip; omega), K27, K25, (fun h9 => by exfalso; skip; have := R12.1 15 _ _ rfl; have := R12.1 16 _ _ rfl; have := R12.1 19 _ _ rfl; omega)⟩
    · refine mv_iconst (v := 1) d_TrustDeskModel_isWell_7 (by decide) ?_
      refine mv_goto (tgt := 12) d_TrustDeskModel_isWell_8 (by decide) ?_
      refine mv_iret d_TrustDeskModel_isWell_12 rfl (by decide) ?_
      refine mv_if_ne_t (tgt := 43) d_TrustDeskModel_readRule_39 (by decide) (by decide) ?_
      refine mv_aload_n d_TrustDeskModel_readRule_43 rfl rfl ?_
      refine mv_iload_n d_TrustDeskModel_readRule_44 rfl rfl ?_
      obtain ⟨_, b45, -⟩ := I9.1 _ _ t15
      refine mv_callV (kc' := 0) (ks' := 0) (As := [.int v11]) (st9 := [.int v11, .ref o0]) d_TrustDeskModel_readRule_45 lV_TrustDeskModel_342 b45 rfl (tc_TrustDeskModel_begin_a (d := (d + 22)) (x9 := x9) (o0 := o0) (x1 := v11) t15 R12 E24.1 (E24.s yS (by decide)) (by have := R12.1 15 _ _ rfl; have := R12.1 16 _ _ rfl; have := R12.1 19 _ _ rfl; omega) (by have := R12.1 15 _ _ rfl; have := R12.1 16 _ _ rfl; have := R12.1 19 _ _ rfl; omega) (by have := R12.1 15 _ _ rfl; have := R12.1 16 _ _ rfl; have := R12.1 19 _ _ rfl; omega) Z928 I9.start) rfl (Nat.le_of_ble_eq_true rfl) (Nat.le_of_ble_eq_true rfl) (Nat.le_of_ble_eq_true rfl) (hst := rfl) (fun b39r M40 n41 b39 => ?_)
      obtain ⟨T42, J43, v46, rfl, R47, f48, f49, f50, f51, f52, f53, f54, f55⟩ := b39
      have I44 := I9.call J43 (tm_sub (by decide)) (Or.inl rfl)
      have t56 := J43.up t15
      have := f48.2.1
      have f57 := Im.i f48.w.2
      have f58 := Im.i f48.w2
      have z59 := (rv_c I9 J43 (I9.up h_o0) (k := 19) rfl).trans z19
      have z60 := (rv_c I9 J43 (I9.up h_o0) (k := 22) rfl).trans z20
      have z61 := (rv_c I9 J43 (I9.up h_o0) (k := 24) rfl).trans z21
      have z62 := (ra_call I9 J43 (I9.up h_o0) (k := 5) rfl rfl rfl 44).trans z22
      have E63 : rE M0 M40 o0 0 1 := E24.trans f48 (by decide) (yR.2 5 _ _ rfl 44).1 (by decide) (by decide)
      have h64 : (880 + ra M5 o0 6 44).toNat = (880 + ra M0 o0 6 44).toNat := by omega
      rw [h64] at f51 f52 f53
      have K65 : rK M0 M40 o0 ((880 + ra M0 o0 6 44).toNat) := K25.trans f53
      have K66 : nN M40 o0 := K26.same (sA_c I9 J43 (I9.up h_o0) (by decide +kernel)) (sF_c I9 J43 (I9.up h_o0) (by decide +kernel))
      have K67 : ∀ i : Nat, i ≠ 44 → ra M40 o0 6 i = ra M0 o0 6 i := (fun i h9 => (f55 i h9).trans (K27 i h9))
      obtain ⟨s68, e69⟩ : ∃ s9 : p_S, p_nx ps = s9 := ⟨_, rfl⟩
      rw [e69] at f54
      have := f54.w
      clear z20 z21
      have q70 := J43.keep t15 (by decide) q30
      have t71 := J43.up t_a31
      have q72 := J43.keep t15 (by decide) q36
      refine mv_istore_n (lv' := [(2, .int v46), (1, .int v11), (0, .ref o0)]) d_TrustDeskModel_readRule_48 rfl (by decide) rfl ?_
      refine mv_iload_n d_TrustDeskModel_readRule_49 rfl rfl ?_
      refine mv_bipush (v := 6) d_TrustDeskModel_readRule_50 (by decide) ?_
      have := mz_hi v11
      refine mv_icmp_neZ (tgt := 171) (a := v11.toInt) (b := 6) d_TrustDeskModel_readRule_52 (by decide) rfl (by decide) (fun b73 => by exfalso; omega) (fun b73 => ?_)
      refine mv_aload_n d_TrustDeskModel_readRule_55 rfl rfl ?_
      obtain ⟨a75, q74, t_a75⟩ := tm_atR I44 t56 (k := 8) rfl
      refine tr_getK q74 d_TrustDeskModel_readRule_56 f_TrustDeskModel_29_13 ?_
      refine mv_iload_n d_TrustDeskModel_readRule_59 rfl rfl ?_
      refine mv_aload_n d_TrustDeskModel_readRule_60 rfl rfl ?_
      refine mv_ldcSw (id := 21) (tx := "near") d_TrustDeskModel_readRule_61 (List.mem_of_getElem? (i := 11) rfl) ?_
      obtain ⟨_, b82, -⟩ := I44.1 _ _ t56
      refine mv_callV (kc' := 0) (ks' := 0) (As := [.ref 21]) (st9 := [.ref 21, .ref o0, .int v46, .ref a75]) d_TrustDeskModel_readRule_64 lV_TrustDeskModel_244 b82 rfl (tc_TrustDeskModel_isWord_s1_21_x (d := (d + 20)) (x9 := x9) (o0 := o0) t56 R47 I44.start) rfl (Nat.le_of_ble_eq_true rfl) (Nat.le_of_ble_eq_true rfl) (Nat.le_of_ble_eq_true rfl) (hst := rfl) (fun b76r M77 n78 b76 => ?_)
      obtain ⟨T79, J80, v83, rfl, b84, b85, R86, f87, f88, f89⟩ := b76
      have I81 := I44.call J80 (tm_sub (by decide)) (Or.inl rfl)
      have t90 := J80.up t56
      have t91 := J80.up t_a75
      replace f87 := Im.i f87
      replace f88 := Im.i f88
      replace f89 := Im.i f89
      have z92 := (rv_c I44 J80 (I44.up h_o0) (k := 15) rfl)
      have z93 := (rv_c I44 J80 (I44.up h_o0) (k := 16) rfl)
      have z94 := (rv_c I44 J80 (I44.up h_o0) (k := 17) rfl)
      have z95 := (rv_c I44 J80 (I44.up h_o0) (k := 19) rfl).trans z59
      have z96 := (rv_c I44 J80 (I44.up h_o0) (k := 22) rfl).trans z60
      have z97 := (rv_c I44 J80 (I44.up h_o0) (k := 24) rfl).trans z61
      have z98 := (ra_call I44 J80 (I44.up h_o0) (k := 5) rfl rfl rfl 44).trans z62
      have z99 := (ra_call I44 J80 (I44.up h_o0) (k := 6) rfl rfl rfl 44)
      have z100 := (ra_call I44 J80 (I44.up h_o0) (k := 7) rfl rfl rfl ((880 + ra M0 o0 6 44).toNat))
      have z101 := (ra_call I44 J80 (I44.up h_o0) (k := 10) rfl rfl rfl ((880 + ra M0 o0 6 44).toNat))
      have E102 : rE M0 M77 o0 0 1 := E63.same (rE_hv I44 J80 (I44.up h_o0) 15 19 (by decide)) (rE_ha I44 J80 (I44.up h_o0) (by decide))
      have K103 : rK M0 M77 o0 ((880 + ra M0 o0 6 44).toNat) := K65.same (sA_c I44 J80 (I44.up h_o0) (by decide +kernel))
      have K104 : nN M77 o0 := K66.same (sA_c I44 J80 (I44.up h_o0) (by decide +kernel)) (sF_c I44 J80 (I44.up h_o0) (by decide +kernel))
      have K105 : ∀ i : Nat, i ≠ 44 → ra M77 o0 6 i = ra M0 o0 6 i := (by have e9 := ((sA_c I44 J80 (I44.up h_o0) (by decide +kernel)) : sA [6] _ _ _) 6 rfl; rw [e9]; exact K67)
      have Z9106 : pO M77 o0 pb pn pa s68 := f54.same (rE_hv I44 J80 (I44.up h_o0) 14 20 (by decide)) (rv_c I44 J80 (I44.up h_o0) (k := 23) rfl) (ra_call I44 J80 (I44.up h_o0) (k := 13) rfl rfl rfl)
      have d107 := Im.i (pO.w_19 f54 (by have := R47.1 15 _ _ rfl; have := R47.1 16 _ _ rfl; have := R47.1 19 _ _ rfl; omega) (Im.o f88) (Im.o f89) (by have := R47.1 15 _ _ rfl; have := R47.1 16 _ _ rfl; have := R47.1 19 _ _ rfl; omega))
      clear z60 z61 z62
      have q108 := J80.keep t56 (by decide) q70
      have t109 := J80.up t71
      have q110 := J80.keep t56 (by decide) q72
      have q111 := J80.keep t56 (by decide) q74
      have := mz_hi v83
      refine mv_if_eqZ (tgt := 74) (a := v83.toInt) d_TrustDeskModel_readRule_67 (by decide) rfl (fun b112 => ?_) (fun b112 => ?_)
      · refine mv_aload_n d_TrustDeskModel_readRule_74 rfl rfl ?_
        refine mv_ldcSw (id := 22) (tx := "join") d_TrustDeskModel_readRule_75 (List.mem_of_getElem? (i := 12) rfl) ?_
        obtain ⟨_, b119, -⟩ := I81.1 _ _ t90
        refine mv_callV (kc' := 0) (ks' := 0) (As := [.ref 22]) (st9 := [.ref 22, .ref o0, .int v46, .ref a75]) d_TrustDeskModel_readRule_78 lV_TrustDeskModel_244 b119 rfl (tc_TrustDeskModel_isWord_s1_22_x (d := (d + 20)) (x9 := x9) (o0 := o0) t90 R86 I81.start) rfl (Nat.le_of_ble_eq_true rfl) (Nat.le_of_ble_eq_true rfl) (Nat.le_of_ble_eq_true rfl) (hst := rfl) (fun b113r M114 n115 b113 => ?_)
        obtain ⟨T116, J117, v120, rfl, b121, b122, R123, f124, f125, f126⟩ := b113
        have I118 := I81.call J117 (tm_sub (by decide)) (Or.inl rfl)
        have t127 := J117.up t90
        have t128 := J117.up t91
        replace f124 := Im.i f124
        replace f125 := Im.i f125
        replace f126 := Im.i f126
        have z129 := (rv_c I81 J117 (I81.up h_o0) (k := 15) rfl).trans z92
        have z130 := (rv_c I81 J117 (I81.up h_o0) (k := 16) rfl).trans z93
        have z131 := (rv_c I81 J117 (I81.up h_o0) (k := 17) rfl).trans z94
        have z132 := (rv_c I81 J117 (I81.up h_o0) (k := 19) rfl).trans z95
        have z133 := (rv_c I81 J117 (I81.up h_o0) (k := 22) rfl).trans z96
        have z134 := (rv_c I81 J117 (I81.up h_o0) (k := 24) rfl).trans z97
        have z135 := (ra_call I81 J117 (I81.up h_o0) (k := 5) rfl rfl rfl 44).trans z98
        have z136 := (ra_call I81 J117 (I81.up h_o0) (k := 6) rfl rfl rfl 44).trans z99
        have z137 := (ra_call I81 J117 (I81.up h_o0) (k := 7) rfl rfl rfl ((880 + ra M0 o0 6 44).toNat)).trans z100
        have z138 := (ra_call I81 J117 (I81.up h_o0) (k := 10) rfl rfl rfl ((880 + ra M0 o0 6 44).toNat)).trans z101
        have E139 : rE M0 M114 o0 0 1 := E102.same (rE_hv I81 J117 (I81.up h_o0) 15 19 (by decide)) (rE_ha I81 J117 (I81.up h_o0) (by decide))
        have K140 : rK M0 M114 o0 ((880 + ra M0 o0 6 44).toNat) := K103.same (sA_c I81 J117 (I81.up h_o0) (by decide +kernel))
        have K141 : nN M114 o0 := K104.same (sA_c I81 J117 (I81.up h_o0) (by decide +kernel)) (sF_c I81 J117 (I81.up h_o0) (by decide +kernel))
        have K142 : ∀ i : Nat, i ≠ 44 → ra M114 o0 6 i = ra M0 o0 6 i := (by have e9 := ((sA_c I81 J117 (I81.up h_o0) (by decide +kernel)) : sA [6] _ _ _) 6 rfl; rw [e9]; exact K105)
        have Z9143 : pO M114 o0 pb pn pa s68 := Z9106.same (rE_hv I81 J117 (I81.up h_o0) 14 20 (by decide)) (rv_c I81 J117 (I81.up h_o0) (k := 23) rfl) (ra_call I81 J117 (I81.up h_o0) (k := 13) rfl rfl rfl)
        have d144 := Im.i (pO.w_20 Z9106 (by have := R86.1 15 _ _ rfl; have := R86.1 16 _ _ rfl; have := R86.1 19 _ _ rfl; omega) (Im.o f125) (Im.o f126) (by have := R86.1 15 _ _ rfl; have := R86.1 16 _ _ rfl; have := R86.1 19 _ _ rfl; omega))
        clear z96 z97 z98 z99 z100 z101
        have q145 := J117.keep t90 (by decide) q108
        have t146 := J117.up t109
        have q147 := J117.keep t90 (by decide) q110
        have q148 := J117.keep t90 (by decide) q111
        have := mz_hi v120
        refine mv_if_eqZ (tgt := 88) (a := v120.toInt) d_TrustDeskModel_readRule_81 (by decide) rfl (fun b149 => ?_) (fun b149 => ?_)
        · refine mv_aload_n d_TrustDeskModel_readRule_88 rfl rfl ?_
          refine mv_ldcSw (id := 23) (tx := "sale") d_TrustDeskModel_readRule_89 (List.mem_of_getElem? (i := 13) rfl) ?_
          obtain ⟨_, b156, -⟩ := I118.1 _ _ t127
          refine mv_callV (kc' := 0) (ks' := 0) (As := [.ref 23]) (st9 := [.ref 23, .ref o0, .int v46, .ref a75]) d_TrustDeskModel_readRule_92 lV_TrustDeskModel_244 b156 rfl (tc_TrustDeskModel_isWord_s1_23_x (d := (d + 20)) (x9 := x9) (o0 := o0) t127 R123 I118.start) rfl (Nat.le_of_ble_eq_true rfl) (Nat.le_of_ble_eq_true rfl) (Nat.le_of_ble_eq_true rfl) (hst := rfl) (fun b150r M151 n152 b150 => ?_)
          obtain ⟨T153, J154, v157, rfl, b158, b159, R160, f161, f162, f163⟩ := b150
          have I155 := I118.call J154 (tm_sub (by decide)) (Or.inl rfl)
          have t164 := J154.up t127
          have t165 := J154.up t128
          replace f161 := Im.i f161
          replace f162 := Im.i f162
          replace f163 := Im.i f163
          have z166 := (rv_c I118 J154 (I118.up h_o0) (k := 15) rfl).trans z129
          have z167 := (rv_c I118 J154 (I118.up h_o0) (k := 16) rfl).trans z130
          have z168 := (rv_c I118 J154 (I118.up h_o0) (k := 17) rfl).trans z131
          have z169 := (rv_c I118 J154 (I118.up h_o0) (k := 19) rfl).trans z132
          have z170 := (rv_c I118 J154 (I118.up h_o0) (k := 22) rfl).trans z133
          have z171 := (rv_c I118 J154 (I118.up h_o0) (k := 24) rfl).trans z134
          have z172 := (ra_call I118 J154 (I118.up h_o0) (k := 5) rfl rfl rfl 44).trans z135
          have z173 := (ra_call I118 J154 (I118.up h_o0) (k := 6) rfl rfl rfl 44).trans z136
          have z174 := (ra_call I118 J154 (I118.up h_o0) (k := 7) rfl rfl rfl ((880 + ra M0 o0 6 44).toNat)).trans z137
          have z175 := (ra_call I118 J154 (I118.up h_o0) (k := 10) rfl rfl rfl ((880 + ra M0 o0 6 44).toNat)).trans z138
          have E176 : rE M0 M151 o0 0 1 := E139.same (rE_hv I118 J154 (I118.up h_o0) 15 19 (by decide)) (rE_ha I118 J154 (I118.up h_o0) (by decide))
          have K177 : rK M0 M151 o0 ((880 + ra M0 o0 6 44).toNat) := K140.same (sA_c I118 J154 (I118.up h_o0) (by decide +kernel))
          have K178 : nN M151 o0 := K141.same (sA_c I118 J154 (I118.up h_o0) (by decide +kernel)) (sF_c I118 J154 (I118.up h_o0) (by decide +kernel))
          have K179 : ∀ i : Nat, i ≠ 44 → ra M151 o0 6 i = ra M0 o0 6 i := (by have e9 := ((sA_c I118 J154 (I118.up h_o0) (by decide +kernel)) : sA [6] _ _ _) 6 rfl; rw [e9]; exact K142)
          have Z9180 : pO M151 o0 pb pn pa s68 := Z9143.same (rE_hv I118 J154 (I118.up h_o0) 14 20 (by decide)) (rv_c I118 J154 (I118.up h_o0) (k := 23) rfl) (ra_call I118 J154 (I118.up h_o0) (k := 13) rfl rfl rfl)
          have d181 := Im.i (pO.w_21 Z9143 (by have := R123.1 15 _ _ rfl; have := R123.1 16 _ _ rfl; have := R123.1 19 _ _ rfl; omega) (Im.o f162) (Im.o f163) (by have := R123.1 15 _ _ rfl; have := R123.1 16 _ _ rfl; have := R123.1 19 _ _ rfl; omega))
          clear z133 z134 z135 z136 z137 z138
          have q182 := J154.keep t127 (by decide) q145
          have t183 := J154.up t146
          have q184 := J154.keep t127 (by decide) q147
          have q185 := J154.keep t127 (by decide) q148
          have := mz_hi v157
          refine mv_if_eqZ (tgt := 102) (a := v157.toInt) d_TrustDeskModel_readRule_95 (by decide) rfl (fun b186 => ?_) (fun b186 => ?_)
          · refine mv_aload_n d_TrustDeskModel_readRule_102 rfl rfl ?_
            refine mv_ldcSw (id := 24) (tx := "strike") d_TrustDeskModel_readRule_103 (List.mem_of_getElem? (i := 14) rfl) ?_
            obtain ⟨_, b193, -⟩ := I155.1 _ _ t164
            refine mv_callV (kc' := 0) (ks' := 0) (As := [.ref 24]) (st9 := [.ref 24, .ref o0, .int v46, .ref a75]) d_TrustDeskModel_readRule_106 lV_TrustDeskModel_244 b193 rfl (tc_TrustDeskModel_isWord_s1_24_x (d := (d + 20)) (x9 := x9) (o0 := o0) t164 R160 I155.start) rfl (Nat.le_of_ble_eq_true rfl) (Nat.le_of_ble_eq_true rfl) (Nat.le_of_ble_eq_true rfl) (hst := rfl) (fun b187r M188 n189 b187 => ?_)
            obtain ⟨T190, J191, v194, rfl, b195, b196, R197, f198, f199, f200⟩ := b187
            have I192 := I155.call J191 (tm_sub (by decide)) (Or.inl rfl)
            have t201 := J191.up t164
            have t202 := J191.up t165
            replace f198 := Im.i f198
            replace f199 := Im.i f199
            replace f200 := Im.i f200
            have z203 := (rv_c I155 J191 (I155.up h_o0) (k := 15) rfl).trans z166
            have z204 := (rv_c I155 J191 (I155.up h_o0) (k := 16) rfl).trans z167
            have z205 := (rv_c I155 J191 (I155.up h_o0) (k := 17) rfl).trans z168
            have z206 := (rv_c I155 J191 (I155.up h_o0) (k := 19) rfl).trans z169
            have z207 := (rv_c I155 J191 (I155.up h_o0) (k := 22) rfl).trans z170
            have z208 := (rv_c I155 J191 (I155.up h_o0) (k := 24) rfl).trans z171
            have z209 := (ra_call I155 J191 (I155.up h_o0) (k := 5) rfl rfl rfl 44).trans z172
            have z210 := (ra_call I155 J191 (I155.up h_o0) (k := 6) rfl rfl rfl 44).trans z173
            have z211 := (ra_call I155 J191 (I155.up h_o0) (k := 7) rfl rfl rfl ((880 + ra M0 o0 6 44).toNat)).trans z174
            have z212 := (ra_call I155 J191 (I155.up h_o0) (k := 10) rfl rfl rfl ((880 + ra M0 o0 6 44).toNat)).trans z175
            have E213 : rE M0 M188 o0 0 1 := E176.same (rE_hv I155 J191 (I155.up h_o0) 15 19 (by decide)) (rE_ha I155 J191 (I155.up h_o0) (by decide))
            have K214 : rK M0 M188 o0 ((880 + ra M0 o0 6 44).toNat) := K177.same (sA_c I155 J191 (I155.up h_o0) (by decide +kernel))
            have K215 : nN M188 o0 := K178.same (sA_c I155 J191 (I155.up h_o0) (by decide +kernel)) (sF_c I155 J191 (I155.up h_o0) (by decide +kernel))
            have K216 : ∀ i : Nat, i ≠ 44 → ra M188 o0 6 i = ra M0 o0 6 i := (by have e9 := ((sA_c I155 J191 (I155.up h_o0) (by decide +kernel)) : sA [6] _ _ _) 6 rfl; rw [e9]; exact K179)
            have Z9217 : pO M188 o0 pb pn pa s68 := Z9180.same (rE_hv I155 J191 (I155.up h_o0) 14 20 (by decide)) (rv_c I155 J191 (I155.up h_o0) (k := 23) rfl) (ra_call I155 J191 (I155.up h_o0) (k := 13) rfl rfl rfl)
            have d218 := Im.i (pO.w_22 Z9180 (by have := R160.1 15 _ _ rfl; have := R160.1 16 _ _ rfl; have := R160.1 19 _ _ rfl; omega) (Im.o f199) (Im.o f200) (by have := R160.1 15 _ _ rfl; have := R160.1 16 _ _ rfl; have := R160.1 19 _ _ rfl; omega))
            clear z170 z171 z172 z173 z174 z175
            have q219 := J191.keep t164 (by decide) q182
            have t220 := J191.up t183
            have q221 := J191.keep t164 (by decide) q184
            have q222 := J191.keep t164 (by decide) q185
            have := mz_hi v194
            refine mv_if_eqZ (tgt := 116) (a := v194.toInt) d_TrustDeskModel_readRule_109 (by decide) rfl (fun b223 => ?_) (fun b223 => ?_)
            · refine mv_iconst (v := (-1)) d_TrustDeskModel_readRule_116 (by decide) ?_
              refine tr_iastR (k := 8) I192 R197 (I192.up h_o0) q222 t202 (by decide) (by decide) (fun lo hi h => by cases h; have e9 : ((-1) : Int32).toInt = (-1) := (by decide); exact ⟨by show ((-1) : Int) ≤ ((-1) : Int32).toInt; omega, by show ((-1) : Int32).toInt ≤ (720 : Int); omega⟩) (Or.inl (by decide)) d_TrustDeskModel_readRule_117 (vp_in_iff.mpr (by have := R197.1 15 _ _ rfl; have := R197.1 16 _ _ rfl; have := R197.1 19 _ _ rfl; omega)) (fun M224 I225 K226 R227 E228 A229 V230 => ?_)
              have z231 := (V230 15).trans z203
              have z232 := (V230 16).trans z204
              have z233 := (V230 17).trans z205
              have z234 := (V230 19).trans z206
              have z235 := (V230 22).trans z207
              have z236 := (V230 24).trans z208
              have z237 := (A229 5 (by decide) rfl 44).trans z209
              have z238 := (A229 6 (by decide) rfl 44).trans z210
              have z239 := (A229 7 (by decide) rfl ((880 + ra M0 o0 6 44).toNat)).trans z211
              have z240 := (A229 10 (by decide) rfl ((880 + ra M0 o0 6 44).toNat)).trans z212
              have E241 : rE M0 M224 o0 0 1 := E213.same (fun k _ _ => V230 k) (fun k h1 h2 => A229 k (by omega) (by rcases (show k = 4 ∨ k = 5 by omega) with rfl | rfl <;> rfl))
              have h242 : (880 + ra M0 o0 6 44).toNat = v46.toNatClampNeg := by have := mz_nat9 (i := v46) (by have := R197.1 15 _ _ rfl; have := R197.1 16 _ _ rfl; have := R197.1 19 _ _ rfl; omega); have := R197.1 15 _ _ rfl; have := R197.1 16 _ _ rfl; have := R197.1 19 _ _ rfl; omega
              have z243 : ra M224 o0 8 ((880 + ra M0 o0 6 44).toNat) = (-1) := (E228 _).trans (if_pos h242)
              have K244 : rK M0 M224 o0 ((880 + ra M0 o0 6 44).toNat) := K214.st A229 E228 (by have := mz_nat9 (i := v46) (by have := R197.1 15 _ _ rfl; have := R197.1 16 _ _ rfl; have := R197.1 19 _ _ rfl; omega); have := R197.1 15 _ _ rfl; have := R197.1 16 _ _ rfl; have := R197.1 19 _ _ rfl; omega)
              have K245 : nN M224 o0 := K215.same (sA_a A229 (by decide +kernel)) (sF_a V230)
              have K246 : ∀ i : Nat, i ≠ 44 → ra M224 o0 6 i = ra M0 o0 6 i := (by have e9 := ((sA_a A229 (by decide +kernel)) : sA [6] _ _ _) 6 rfl; rw [e9]; exact K216)
              have Z9247 : pO M224 o0 pb pn pa s68 := Z9217.same (fun k _ _ => V230 k) (V230 23) (A229 13 (by decide) rfl)
              clear z203 z204 z205 z207 z208 z209 z210 z211 z212
              refine mv_aload_n d_TrustDeskModel_readRule_118 rfl rfl ?_
              refine tr_getK (k := 8) (K226 _ 13 8 _ q222) d_TrustDeskModel_readRule_119 f_TrustDeskModel_29_13 ?_
              refine mv_iload_n d_TrustDeskModel_readRule_122 rfl rfl ?_
              refine tr_ialdR (o := o0) (k := 8) I225 (K226 _ 13 8 _ q222) t202 (by decide) d_TrustDeskModel_readRule_123 (vp_in_iff.mpr (by have := R227.1 15 _ _ rfl; have := R227.1 16 _ _ rfl; have := R227.1 19 _ _ rfl; omega)) (fun v248 e249 => ?_)
              have := R227.a (k := 8) rfl (v46 : Int32).toNatClampNeg
              have h250 : (880 + ra M0 o0 6 44).toNat = v46.toNatClampNeg := by have := mz_nat9 (i := v46) (by have := R227.1 15 _ _ rfl; have := R227.1 16 _ _ rfl; have := R227.1 19 _ _ rfl; omega); have := R227.1 15 _ _ rfl; have := R227.1 16 _ _ rfl; have := R227.1 19 _ _ rfl; omega
              have z251 : v248.toInt = ra M224 o0 8 ((880 + ra M0 o0 6 44).toNat) := by rw [e249, h250]
              have : v248.toInt = _ := Eq.trans z251 z243
              refine mv_iconst (v := (-1)) d_TrustDeskModel_readRule_124 (by decide) ?_
              have := mz_hi v248
              refine mv_icmp_neZ (tgt := 133) (a := v248.toInt) (b := (-1)) d_TrustDeskModel_readRule_125 (by decide) rfl (by decide) (fun b252 => absurd b252 (by omega)) (fun b252 => ?_)
              refine mv_aload_n d_TrustDeskModel_readRule_128 rfl rfl ?_
              refine mv_iconst (v := 1) d_TrustDeskModel_readRule_129 (by decide) ?_
              obtain ⟨_, b259, -⟩ := I225.1 _ _ t201
              have : (1 : Int32).toInt = 1 := by decide
              refine mv_callV (kc' := 0) (ks' := 0) (As := [.int 1]) (st9 := [.int 1, .ref o0]) d_TrustDeskModel_readRule_130 lV_TrustDeskModel_240 b259 rfl (tc_TrustDeskModel_fails_x (d := (d + 24)) (x9 := x9) (o0 := o0) (x1 := 1) t201 R227 (by decide) Z9247 I225.start) rfl (Nat.le_of_ble_eq_true rfl) (Nat.le_of_ble_eq_true rfl) (Nat.le_of_ble_eq_true rfl) (hst := rfl) (fun b253r M254 n255 b253 => ?_)
              obtain ⟨T256, J257, rfl, R260, f261, f262⟩ := b253
              have I258 := I225.call J257 (tm_sub (by decide)) (Or.inl rfl)
              have t263 := J257.up t201
              have z264 := (rv_c I225 J257 (I225.up h_o0) (k := 15) rfl).trans z231
              have z265 := (rv_c I225 J257 (I225.up h_o0) (k := 16) rfl).trans z232
              have z266 := (rv_c I225 J257 (I225.up h_o0) (k := 17) rfl).trans z233
              have z267 := (rv_c I225 J257 (I225.up h_o0) (k := 22) rfl).trans z235
              have z268 := (rv_c I225 J257 (I225.up h_o0) (k := 24) rfl).trans z236
              have z269 := (ra_call I225 J257 (I225.up h_o0) (k := 5) rfl rfl rfl 44).trans z237
              have z270 := (ra_call I225 J257 (I225.up h_o0) (k := 6) rfl rfl rfl 44).trans z238
              have z271 := (ra_call I225 J257 (I225.up h_o0) (k := 7) rfl rfl rfl ((880 + ra M0 o0 6 44).toNat)).trans z239
              have z272 := (ra_call I225 J257 (I225.up h_o0) (k := 10) rfl rfl rfl ((880 + ra M0 o0 6 44).toNat)).trans z240
              have z273 := (ra_call I225 J257 (I225.up h_o0) (k := 8) rfl rfl rfl ((880 + ra M0 o0 6 44).toNat)).trans z243
              have E274 : rE M0 M254 o0 0 1 := E241.fails (rE_hv I225 J257 (I225.up h_o0) 15 18 (by decide)) (rE_ha I225 J257 (I225.up h_o0) (by decide)) f261 0 1
              have K275 : rK M0 M254 o0 ((880 + ra M0 o0 6 44).toNat) := K244.same (sA_c I225 J257 (I225.up h_o0) (by decide +kernel))
              have K276 : nN M254 o0 := K245.same (sA_c I225 J257 (I225.up h_o0) (by decide +kernel)) (sF_c I225 J257 (I225.up h_o0) (by decide +kernel))
              have K277 : ∀ i : Nat, i ≠ 44 → ra M254 o0 6 i = ra M0 o0 6 i := (by have e9 := ((sA_c I225 J257 (I225.up h_o0) (by decide +kernel)) : sA [6] _ _ _) 6 rfl; rw [e9]; exact K246)
              rw [show (1 : Int32).toInt = 1 from by decide] at f262
              obtain ⟨s278, e279⟩ : ∃ s9 : p_S, p_fl pb pn 1 s68 = s9 := ⟨_, rfl⟩
              rw [e279] at f262
              have := f262.w
              clear z231 z232 z233 z235 z236 z237 z238 z239 z240 z243
              have q280 := J257.keep t201 (by decide) (K226 _ 13 6 _ q219)
              have t281 := J257.up t220
              have q282 := J257.keep t201 (by decide) (K226 _ 13 8 _ q222)
              have t283 := J257.up t202
              refine mv_aload_n d_TrustDeskModel_readRule_133 rfl rfl ?_
              obtain ⟨_, b284, -⟩ := I258.1 _ _ t263
              refine mv_callV (kc1 := 0) (ks1 := 0) (kc' := 0) (ks' := 0) (As := []) (st9 := [.ref o0]) d_TrustDeskModel_readRule_134 lV_TrustDeskModel_230 b284 rfl (mj_enter (by decide) (Nat.le_of_ble_eq_true rfl) ?_) rfl (Nat.le_of_ble_eq_true rfl) (Nat.le_of_ble_eq_true rfl) (Nat.le_of_ble_eq_true rfl) (hst := rfl) (fun _ _ _ h => h)
              refine mv_aload_n d_TrustDeskModel_isWell_0 rfl rfl ?_
              obtain ⟨v286, q285⟩ := tm_atI I258 t263 (k := 19) rfl
              refine tr_getK q285 d_TrustDeskModel_isWell_1 f_TrustDeskModel_224_13 ?_
              have := R260.f (k := 19) q285 rfl
              have := tm_rv q285
              refine mv_if_neZ (tgt := 11) (a := v286.toInt) d_TrustDeskModel_isWell_4 (by decide) rfl (fun b287 => ?_) (fun b287 => ?_)
              · refine mv_iconst (v := 0) d_TrustDeskModel_isWell_11 (by decide) ?_
                refine mv_iret d_TrustDeskModel_isWell_12 rfl (by decide) ?_
                refine mv_if_eq_t (tgt := 144) d_TrustDeskModel_readRule_137 (by decide) (by decide) ?_
                refine mv_aload_n d_TrustDeskModel_readRule_144 rfl rfl ?_
                refine mv_ldcSw (id := 25) (tx := "if") d_TrustDeskModel_readRule_145 (List.mem_of_getElem? (i := 15) rfl) ?_
                obtain ⟨_, b294, -⟩ := I258.1 _ _ t263
                refine mv_callV (kc' := 0) (ks' := 0) (As := [.ref 25]) (st9 := [.ref 25, .ref o0]) d_TrustDeskModel_readRule_148 lV_TrustDeskModel_329 b294 rfl (tc_TrustDeskModel_wantWord_s1_25_x (d := (d + 19)) (x9 := x9) (o0 := o0) t263 R260 E274.1 (E274.s yS (by decide)) f262 I258.start) rfl (Nat.le_of_ble_eq_true rfl) (Nat.le_of_ble_eq_true rfl) (Nat.le_of_ble_eq_true rfl) (hst := rfl) (fun b288r M289 n290 b288 => ?_)
                obtain ⟨T291, J292, rfl, R295, f296, f297⟩ := b288
                have I293 := I258.call J292 (tm_sub (by decide)) (Or.inl rfl)
                have t298 := J292.up t263
                have := f296.2.1
                have f299 := Im.i f296.w.2
                have f300 := Im.i f296.w2
                have z301 := (rv_c I258 J292 (I258.up h_o0) (k := 22) rfl).trans z267
                have z302 := (rv_c I258 J292 (I258.up h_o0) (k := 24) rfl).trans z268
                have z303 := (ra_call I258 J292 (I258.up h_o0) (k := 5) rfl rfl rfl 44).trans z269
                have z304 := (ra_call I258 J292 (I258.up h_o0) (k := 6) rfl rfl rfl 44).trans z270
                have z305 := (ra_call I258 J292 (I258.up h_o0) (k := 7) rfl rfl rfl ((880 + ra M0 o0 6 44).toNat)).trans z271
                have z306 := (ra_call I258 J292 (I258.up h_o0) (k := 10) rfl rfl rfl ((880 + ra M0 o0 6 44).toNat)).trans z272
                have z307 := (ra_call I258 J292 (I258.up h_o0) (k := 8) rfl rfl rfl ((880 + ra M0 o0 6 44).toNat)).trans z273
                have E308 : rE M0 M289 o0 0 2 := E274.trans f296 (by decide) (yR.2 5 _ _ rfl 44).1 (by decide) (by decide)
                have K309 : rK M0 M289 o0 ((880 + ra M0 o0 6 44).toNat) := K275.same (sA_c I258 J292 (I258.up h_o0) (by decide +kernel))
                have K310 : nN M289 o0 := K276.same (sA_c I258 J292 (I258.up h_o0) (by decide +kernel)) (sF_c I258 J292 (I258.up h_o0) (by decide +kernel))
                have K311 : ∀ i : Nat, i ≠ 44 → ra M289 o0 6 i = ra M0 o0 6 i := (by have e9 := ((sA_c I258 J292 (I258.up h_o0) (by decide +kernel)) : sA [6] _ _ _) 6 rfl; rw [e9]; exact K277)
                obtain ⟨s312, e313⟩ : ∃ s9 : p_S, p_wd pb pn 28 s278 = s9 := ⟨_, rfl⟩
                rw [e313] at f297
                have := f297.w
                clear z267 z268 z269 z270 z271 z272 z273
                have q314 := J292.keep t263 (by decide) q280
                have t315 := J292.up t281
                have q316 := J292.keep t263 (by decide) q282
                have t317 := J292.up t283
                refine mv_aload_n d_TrustDeskModel_readRule_151 rfl rfl ?_
                obtain ⟨a319, q318, t_a319⟩ := tm_atR I293 t298 (k := 11) rfl
                refine tr_getK q318 d_TrustDeskModel_readRule_152 f_TrustDeskModel_38_13 ?_
                refine mv_iload_n d_TrustDeskModel_readRule_155 rfl rfl ?_
                refine mv_aload_n d_TrustDeskModel_readRule_156 rfl rfl ?_
                obtain ⟨a321, q320, t_a321⟩ := tm_atR I293 t298 (k := 5) rfl
                refine tr_getK q320 d_TrustDeskModel_readRule_157 f_TrustDeskModel_20_13 ?_
                refine mv_bipush (v := 44) d_TrustDeskModel_readRule_160 (by decide) ?_
                refine tr_ialdR (o := o0) (k := 5) I293 q320 t_a321 (by decide) d_TrustDeskModel_readRule_162 (by unfold vp_in; decide) (fun v322 e323 => ?_)
                have := R295.a (k := 5) rfl (44 : Int32).toNatClampNeg
                have : v322.toInt = ra M289 o0 5 44 := e323
                have : v322.toInt = _ := Eq.trans e323 z303
                refine tr_iastR (k := 11) I293 R295 (I293.up h_o0) q318 t_a319 (by decide) (by decide) (fun lo hi h => by cases h; have := R295.1 15 _ _ rfl; have := R295.1 16 _ _ rfl; have := R295.1 19 _ _ rfl; exact ⟨by show (0 : Int) ≤ v322.toInt; omega, by show v322.toInt ≤ (400 : Int); omega⟩) (Or.inl (by decide)) d_TrustDeskModel_readRule_163 (vp_in_iff.mpr (by have := R295.1 15 _ _ rfl; have := R295.1 16 _ _ rfl; have := R295.1 19 _ _ rfl; omega)) (fun M324 I325 K326 R327 E328 A329 V330 => ?_)
                have z331 := (V330 15)
                have z332 := (V330 16)
                have z333 := (V330 17)
                have z334 := (V330 19)
                have z335 := (V330 22).trans z301
                have z336 := (V330 24).trans z302
                have z337 := (A329 5 (by decide) rfl 44).trans z303
                have z338 := (A329 6 (by decide) rfl 44).trans z304
                have z339 := (A329 7 (by decide) rfl ((880 + ra M0 o0 6 44).toNat)).trans z305
                have z340 := (A329 10 (by decide) rfl ((880 + ra M0 o0 6 44).toNat)).trans z306
                have z341 := (A329 8 (by decide) rfl ((880 + ra M0 o0 6 44).toNat)).trans z307
                have E342 : rE M0 M324 o0 0 2 := E308.same (fun k _ _ => V330 k) (fun k h1 h2 => A329 k (by omega) (by rcases (show k = 4 ∨ k = 5 by omega) with rfl | rfl <;> rfl))
                have h343 : (880 + ra M0 o0 6 44).toNat = v46.toNatClampNeg := by have := mz_nat9 (i := v46) (by have := R295.1 15 _ _ rfl; have := R295.1 16 _ _ rfl; have := R295.1 19 _ _ rfl; omega); have := R295.1 15 _ _ rfl; have := R295.1 16 _ _ rfl; have := R295.1 19 _ _ rfl; omega
                have z344 : ra M324 o0 11 ((880 + ra M0 o0 6 44).toNat) = v322.toInt := (E328 _).trans (if_pos h343)
                have K345 : rK M0 M324 o0 ((880 + ra M0 o0 6 44).toNat) := K309.st A329 E328 (by have := mz_nat9 (i := v46) (by have := R295.1 15 _ _ rfl; have := R295.1 16 _ _ rfl; have := R295.1 19 _ _ rfl; omega); have := R295.1 15 _ _ rfl; have := R295.1 16 _ _ rfl; have := R295.1 19 _ _ rfl; omega)
                have K346 : nN M324 o0 := K310.same (sA_a A329 (by decide +kernel)) (sF_a V330)
                have K347 : ∀ i : Nat, i ≠ 44 → ra M324 o0 6 i = ra M0 o0 6 i := (by have e9 := ((sA_a A329 (by decide +kernel)) : sA [6] _ _ _) 6 rfl; rw [e9]; exact K311)
                have F348 : rE M324 M324 o0 0 0 := rE.rf E342.1
                have : ra M324 o0 5 44 = v322.toInt := by omega
                have Z9349 : pO M324 o0 pb pn pa s312 := f297.same (fun k _ _ => V330 k) (V330 23) (A329 13 (by decide) rfl)
                clear z301 z302 z303 z304 z305 z306 z307
                refine mv_aload_n d_TrustDeskModel_readRule_164 rfl rfl ?_
                obtain ⟨_, b356, -⟩ := I325.1 _ _ t298
                refine mv_callV (kc' := 0) (ks' := 0) (As := []) (st9 := [.ref o0]) d_TrustDeskModel_readRule_165 lV_TrustDeskModel_302 b356 rfl (tc_TrustDeskModel_cond_q5_x (d := d) (x9 := x9) (o0 := o0) t298 R327 E342.1 (E342.s yS (by decide)) (Classical.byCases (fun w9 : rv M324 o0 19 = 0 => by have u91 : rv M289 o0 19 = 0 := (by omega); have := f299.o u91; have := f300.o u91; have u92 : rv M40 o0 19 = 0 := (by omega); have := f57.o u92; have := f58.o u92; omega) (fun w9 : ¬ rv M324 o0 19 = 0 => by omega)) Z9349 I325.start) rfl (Nat.le_of_ble_eq_true rfl) (Nat.le_of_ble_eq_true rfl) (Nat.le_of_ble_eq_true rfl) (hst := rfl) (fun b350r M351 n352 b350 => ?_)
                obtain ⟨T353, J354, rfl, R357, f358, f359, f360⟩ := b350
                have I355 := I325.call J354 (tm_sub (by decide)) (Or.inl rfl)
                have t361 := J354.up t298
                have := f358.2.1
                have f362 := Im.i f358.w.2
                have f363 := Im.i f358.w2
                replace f359 := Im.i f359
                have z364 := (rv_c I325 J354 (I325.up h_o0) (k := 24) rfl).trans z336
                have z365 := (ra_call I325 J354 (I325.up h_o0) (k := 6) rfl rfl rfl 44).trans z338
                have z366 := (ra_call I325 J354 (I325.up h_o0) (k := 7) rfl rfl rfl ((880 + ra M0 o0 6 44).toNat)).trans z339
                have z367 := (ra_call I325 J354 (I325.up h_o0) (k := 10) rfl rfl rfl ((880 + ra M0 o0 6 44).toNat)).trans z340
                have z368 := (ra_call I325 J354 (I325.up h_o0) (k := 8) rfl rfl rfl ((880 + ra M0 o0 6 44).toNat)).trans z341
                have z369 := (ra_call I325 J354 (I325.up h_o0) (k := 11) rfl rfl rfl ((880 + ra M0 o0 6 44).toNat)).trans z344
                have E370 : rE M0 M351 o0 1 2 := E342.trans f358 (by decide) (yR.2 5 _ _ rfl 44).1 (by decide) (by decide)
                have K371 : rK M0 M351 o0 ((880 + ra M0 o0 6 44).toNat) := K345.same (sA_c I325 J354 (I325.up h_o0) (by decide +kernel))
                have K372 : nN M351 o0 := K346.same (sA_c I325 J354 (I325.up h_o0) (by decide +kernel)) (sF_c I325 J354 (I325.up h_o0) (by decide +kernel))
                have K373 : ∀ i : Nat, i ≠ 44 → ra M351 o0 6 i = ra M0 o0 6 i := (by have e9 := ((sA_c I325 J354 (I325.up h_o0) (by decide +kernel)) : sA [6] _ _ _) 6 rfl; rw [e9]; exact K347)
                have F374 : rE M324 M351 o0 1 0 := F348.trans f358 (by decide) (R327.2 5 _ _ rfl 44).1 (by decide) (by decide)
                obtain ⟨s375, e376⟩ : ∃ s9 : p_S, p_con pb pn pa 4 (p_oc pb pn pa 4) s312 = s9 := ⟨_, rfl⟩
                rw [e376] at f360
                have := f360.w
                clear z336 z338 z339 z340 z341 z344
                have q377 := J354.keep t298 (by decide) (K326 _ 13 6 _ q314)
                have t378 := J354.up t315
                have q379 := J354.keep t298 (by decide) (K326 _ 13 8 _ q316)
                have t380 := J354.up t317
                have q381 := J354.keep t298 (by decide) (K326 _ 13 11 _ q318)
                have t382 := J354.up t_a319
                have q383 := J354.keep t298 (by decide) (K326 _ 13 5 _ q320)
                have t384 := J354.up t_a321
                refine mv_goto (tgt := 251) d_TrustDeskModel_readRule_168 (by decide) ?_
                refine mv_aload_n d_TrustDeskModel_readRule_251 rfl rfl ?_
                refine mv_bipush (v := 59) d_TrustDeskModel_readRule_252 (by decide) ?_
                obtain ⟨_, b391, -⟩ := I355.1 _ _ t361
                have : (59 : Int32).toInt = 59 := by decide
                refine mv_callV (kc' := 0) (ks' := 0) (As := [.int 59]) (st9 := [.int 59, .ref o0]) d_TrustDeskModel_readRule_254 lV_TrustDeskModel_291 b391 rfl (tc_TrustDeskModel_wantSign_x (d := (d + 22)) (x9 := x9) (o0 := o0) (x1 := 59) t361 R357 E370.1 (E370.s yS (by decide)) (by decide) f360 I355.start) rfl (Nat.le_of_ble_eq_true rfl) (Nat.le_of_ble_eq_true rfl) (Nat.le_of_ble_eq_true rfl) (hst := rfl) (fun b385r M386 n387 b385 => ?_)
                obtain ⟨T388, J389, rfl, R392, f393, f394⟩ := b385
                have I390 := I355.call J389 (tm_sub (by decide)) (Or.inl rfl)
                have t395 := J389.up t361
                have := f393.2.1
                have f396 := Im.i f393.w.2
                have f397 := Im.i f393.w2
                have z398 := (rv_c I355 J389 (I355.up h_o0) (k := 22) rfl)
                have z399 := (rv_c I355 J389 (I355.up h_o0) (k := 24) rfl).trans z364
                have z400 := (ra_call I355 J389 (I355.up h_o0) (k := 5) rfl rfl rfl 44)
                have z401 := (ra_call I355 J389 (I355.up h_o0) (k := 6) rfl rfl rfl 44).trans z365
                have z402 := (ra_call I355 J389 (I355.up h_o0) (k := 7) rfl rfl rfl ((880 + ra M0 o0 6 44).toNat)).trans z366
                have z403 := (ra_call I355 J389 (I355.up h_o0) (k := 10) rfl rfl rfl ((880 + ra M0 o0 6 44).toNat)).trans z367
                have z404 := (ra_call I355 J389 (I355.up h_o0) (k := 8) rfl rfl rfl ((880 + ra M0 o0 6 44).toNat)).trans z368
                have z405 := (ra_call I355 J389 (I355.up h_o0) (k := 11) rfl rfl rfl ((880 + ra M0 o0 6 44).toNat)).trans z369
                have E406 : rE M0 M386 o0 1 3 := E370.trans f393 (by decide) (yR.2 5 _ _ rfl 44).1 (by decide) (by decide)
                have K407 : rK M0 M386 o0 ((880 + ra M0 o0 6 44).toNat) := K371.same (sA_c I355 J389 (I355.up h_o0) (by decide +kernel))
                have K408 : nN M386 o0 := K372.same (sA_c I355 J389 (I355.up h_o0) (by decide +kernel)) (sF_c I355 J389 (I355.up h_o0) (by decide +kernel))
                have K409 : ∀ i : Nat, i ≠ 44 → ra M386 o0 6 i = ra M0 o0 6 i := (by have e9 := ((sA_c I355 J389 (I355.up h_o0) (by decide +kernel)) : sA [6] _ _ _) 6 rfl; rw [e9]; exact K373)
                have F410 : rE M324 M386 o0 1 1 := F374.trans f393 (by decide) (R327.2 5 _ _ rfl 44).1 (by decide) (by decide)
                rw [show (59 : Int32).toInt = 59 from by decide] at f394
                obtain ⟨s411, e412⟩ : ∃ s9 : p_S, p_sg pb pn 59 s375 = s9 := ⟨_, rfl⟩
                rw [e412] at f394
                have := f394.w
                clear z364 z365 z366 z367 z368 z369
                have q413 := J389.keep t361 (by decide) q377
                have t414 := J389.up t378
                have q415 := J389.keep t361 (by decide) q379
                have t416 := J389.up t380
                have q417 := J389.keep t361 (by decide) q381
                have t418 := J389.up t382
                have q419 := J389.keep t361 (by decide) q383
                have t420 := J389.up t384
                refine mv_aload_n d_TrustDeskModel_readRule_257 rfl rfl ?_
                obtain ⟨a422, q421, t_a422⟩ := tm_atR I390 t395 (k := 12) rfl
                refine tr_getK q421 d_TrustDeskModel_readRule_258 f_TrustDeskModel_41_13 ?_
                refine mv_iload_n d_TrustDeskModel_readRule_261 rfl rfl ?_
                refine mv_aload_n d_TrustDeskModel_readRule_262 rfl rfl ?_
                refine tr_getK (k := 5) q419 d_TrustDeskModel_readRule_263 f_TrustDeskModel_20_13 ?_
                refine mv_bipush (v := 44) d_TrustDeskModel_readRule_266 (by decide) ?_
                refine tr_ialdR (o := o0) (k := 5) I390 q419 t420 (by decide) d_TrustDeskModel_readRule_268 (by unfold vp_in; decide) (fun v423 e424 => ?_)
                have := R392.a (k := 5) rfl (44 : Int32).toNatClampNeg
                have : v423.toInt = ra M386 o0 5 44 := e424
                have : v423.toInt = _ := Eq.trans e424 z400
                refine tr_iastR (k := 12) I390 R392 (I390.up h_o0) q421 t_a422 (by decide) (by decide) (fun lo hi h => by cases h; have := R392.1 15 _ _ rfl; have := R392.1 16 _ _ rfl; have := R392.1 19 _ _ rfl; exact ⟨by show (0 : Int) ≤ v423.toInt; omega, by show v423.toInt ≤ (400 : Int); omega⟩) (Or.inl (by decide)) d_TrustDeskModel_readRule_269 (vp_in_iff.mpr (by have := R392.1 15 _ _ rfl; have := R392.1 16 _ _ rfl; have := R392.1 19 _ _ rfl; omega)) (fun M425 I426 K427 R428 E429 A430 V431 => ?_)
                have z432 := (V431 15)
                have z433 := (V431 16)
                have z434 := (V431 17)
                have z435 := (V431 19)
                have z436 := (V431 22).trans z398
                have z437 := (V431 24).trans z399
                have z438 := (A430 5 (by decide) rfl 44).trans z400
                have z439 := (A430 6 (by decide) rfl 44).trans z401
                have z440 := (A430 7 (by decide) rfl ((880 + ra M0 o0 6 44).toNat)).trans z402
                have z441 := (A430 10 (by decide) rfl ((880 + ra M0 o0 6 44).toNat)).trans z403
                have z442 := (A430 8 (by decide) rfl ((880 + ra M0 o0 6 44).toNat)).trans z404
                have z443 := (A430 11 (by decide) rfl ((880 + ra M0 o0 6 44).toNat)).trans z405
                have E444 : rE M0 M425 o0 1 3 := E406.same (fun k _ _ => V431 k) (fun k h1 h2 => A430 k (by omega) (by rcases (show k = 4 ∨ k = 5 by omega) with rfl | rfl <;> rfl))
                have h445 : (880 + ra M0 o0 6 44).toNat = v46.toNatClampNeg := by have := mz_nat9 (i := v46) (by have := R392.1 15 _ _ rfl; have := R392.1 16 _ _ rfl; have := R392.1 19 _ _ rfl; omega); have := R392.1 15 _ _ rfl; have := R392.1 16 _ _ rfl; have := R392.1 19 _ _ rfl; omega
                have z446 : ra M425 o0 12 ((880 + ra M0 o0 6 44).toNat) = v423.toInt := (E429 _).trans (if_pos h445)
                have K447 : rK M0 M425 o0 ((880 + ra M0 o0 6 44).toNat) := K407.st A430 E429 (by have := mz_nat9 (i := v46) (by have := R392.1 15 _ _ rfl; have := R392.1 16 _ _ rfl; have := R392.1 19 _ _ rfl; omega); have := R392.1 15 _ _ rfl; have := R392.1 16 _ _ rfl; have := R392.1 19 _ _ rfl; omega)
                have K448 : nN M425 o0 := K408.same (sA_a A430 (by decide +kernel)) (sF_a V431)
                have K449 : ∀ i : Nat, i ≠ 44 → ra M425 o0 6 i = ra M0 o0 6 i := (by have e9 := ((sA_a A430 (by decide +kernel)) : sA [6] _ _ _) 6 rfl; rw [e9]; exact K409)
                have F450 : rE M324 M425 o0 1 1 := F410.same (fun k _ _ => V431 k) (fun k h1 h2 => A430 k (by omega) (by rcases (show k = 4 ∨ k = 5 by omega) with rfl | rfl <;> rfl))
                have Z9451 : pO M425 o0 pb pn pa s411 := f394.same (fun k _ _ => V431 k) (V431 23) (A430 13 (by decide) rfl)
                clear z398 z399 z400 z401 z402 z403 z404 z405
                exact mv_vret d_TrustDeskModel_readRule_270 rfl ⟨_, I426, rfl, R428, (rW.of E444.1 (fun h9 => by exfalso; have u91 : rv M386 o0 19 = 0 := (by omega); have := f396.o u91; have := f397.o u91; have u92 : rv M351 o0 19 = 0 := (by omega); have := f362.o u92; have := f363.o u92; have := f359.o u92; have u93 : rv M289 o0 19 = 0 := (by omega); have := f299.o u93; have := f300.o u93; have u94 : rv M40 o0 19 = 0 := (by omega); have := f57.o u94; have := f58.o u94; have := R428.1 15 _ _ rfl; have := R428.1 16 _ _ rfl; have := R428.1 19 _ _ rfl; omega) (fun h9 => by exfalso; have u91 : rv M386 o0 19 = 0 := (by omega); have := f396.o u91; have := f397.o u91; have u92 : rv M351 o0 19 = 0 := (by omega); have := f362.o u92; have := f363.o u92; have := f359.o u92; have u93 : rv M289 o0 19 = 0 := (by omega); have := f299.o u93; have := f300.o u93; have u94 : rv M40 o0 19 = 0 := (by omega); have := f57.o u94; have := f58.o u94; have := R428.1 15 _ _ rfl; have := R428.1 16 _ _ rfl; have := R428.1 19 _ _ rfl; omega)), (rO.of E444 K447 (by have := yR.2 6 _ _ rfl 44; omega)), ⟨E444.2.1, fun w9 => by skip; have := E444.w2 w9; omega⟩, (fun w9 => by have u91 : rv M386 o0 19 = 0 := (by omega); have := f396.o u91; have := f397.o u91; have u92 : rv M351 o0 19 = 0 := (by omega); have := f362.o u92; have := f363.o u92; have := f359.o u92; have u93 : rv M289 o0 19 = 0 := (by omega); have := f299.o u93; have := f300.o u93; have u94 : rv M40 o0 19 = 0 := (by omega); have := f57.o u94; have := f58.o u94; omega), (by first | (have := pW0 (Im.o d107) (by omega); have := Z9106.wk; have := pW0 (Im.o d144) (by omega); have := pW0 (Im.o d181) (by omega); have := pW0 (Im.o d218) (by omega); rw [show p_wd pb pn 28 s278 = s278 from p_wd_Z _ (by omega)] at e313; have z_s312 := Im.i (show s312.1 ≠ 0 from (by rw [← e313]; omega)); rw [show p_con pb pn pa 4 (p_oc pb pn pa 4) s312 = s312 from p_con_Z _ (Im.o z_s312)] at e376; have z_s375 := Im.i (show s375.1 ≠ 0 from (by rw [← e376]; exact Im.o z_s312)); rw [show p_sg pb pn 59 s375 = s375 from p_sg_Z _ (Im.o z_s375)] at e412; have z_s411 := Im.i (show s411.1 ≠ 0 from (by rw [← e412]; exact Im.o z_s375)); rw [show p_rul pb pn pa pc9 ps = s411 from (by unfold p_rul; unfold p_bar; (try simp only [e69, e279, e313, e376, e412]); ((repeat' (first | (with_reducible rfl) | split)) <;> (first | ((try simp only [e69, e279, e313, e376, e412]); done) | ((try simp only [e69, e279, e313, e376, e412]); first | exact p_sg_Z _ (Im.o z_s411) | exact p_sg_Z _ (by omega) | exact (p_sg_Z _ (by omega)).symm | omega) | (exfalso; omega))))]; exact Z9451) | (exfalso; have := R428.1 15 _ _ rfl; have := R428.1 16 _ _ rfl; have := R428.1 19 _ _ rfl; omega)), (fun w9 => by have u91 : rv M386 o0 19 = 0 := (by omega); have := f396.o u91; have := f397.o u91; have u92 : rv M351 o0 19 = 0 := (by omega); have := f362.o u92; have := f363.o u92; have := f359.o u92; have u93 : rv M289 o0 19 = 0 := (by omega); have := f299.o u93; have := f300.o u93; have u94 : rv M40 o0 19 = 0 := (by omega); have := f57.o u94; have := f58.o u94; omega), K449, K447, (fun h9 => by exfalso; have u91 : rv M386 o0 19 = 0 := (by omega); have := f396.o u91; have := f397.o u91; have u92 : rv M351 o0 19 = 0 := (by omega); have := f362.o u92; have := f363.o u92; have := f359.o u92; have u93 : rv M289 o0 19 = 0 := (by omega); have := f299.o u93; have := f300.o u93; have u94 : rv M40 o0 19 = 0 := (by omega); have := f57.o u94; have := f58.o u94; have := R428.1 15 _ _ rfl; have := R428.1 16 _ _ rfl; have := R428.1 19 _ _ rfl; omega)⟩
              · exfalso
                have := R260.1 15 _ _ rfl; have := R260.1 16 _ _ rfl; have := R260.1 19 _ _ rfl; omega
            · refine mv_iconst (v := 3) d_TrustDeskModel_readRule_112 (by decide) ?_
              refine mv_goto (tgt := 117) d_TrustDeskModel_readRule_113 (by decide) ?_
              refine tr_iastR (k := 8) I192 R197 (I192.up h_o0) q222 t202 (by decide) (by decide) (fun lo hi h => by cases h; have e9 : (3 : Int32).toInt = 3 := (by decide); exact ⟨by show ((-1) : Int) ≤ (3 : Int32).toInt; omega, by show (3 : Int32).toInt ≤ (720 : Int); omega⟩) (Or.inl (by decide)) d_TrustDeskModel_readRule_117 (vp_in_iff.mpr (by have := R197.1 15 _ _ rfl; have := R197.1 16 _ _ rfl; have := R197.1 19 _ _ rfl; omega)) (fun M452 I453 K454 R455 E456 A457 V458 => ?_)
              have z459 := (V458 15).trans z203
              have z460 := (V458 16).trans z204
              have z461 := (V458 17).trans z205
              have z462 := (V458 19).trans z206
              have z463 := (V458 22).trans z207
              have z464 := (V458 24).trans z208
              have z465 := (A457 5 (by decide) rfl 44).trans z209
              have z466 := (A457 6 (by decide) rfl 44).trans z210
              have z467 := (A457 7 (by decide) rfl ((880 + ra M0 o0 6 44).toNat)).trans z211
              have z468 := (A457 10 (by decide) rfl ((880 + ra M0 o0 6 44).toNat)).trans z212
              have E469 : rE M0 M452 o0 0 1 := E213.same (fun k _ _ => V458 k) (fun k h1 h2 => A457 k (by omega) (by rcases (show k = 4 ∨ k = 5 by omega) with rfl | rfl <;> rfl))
              have h470 : (880 + ra M0 o0 6 44).toNat = v46.toNatClampNeg := by have := mz_nat9 (i := v46) (by have := R197.1 15 _ _ rfl; have := R197.1 16 _ _ rfl; have := R197.1 19 _ _ rfl; omega); have := R197.1 15 _ _ rfl; have := R197.1 16 _ _ rfl; have := R197.1 19 _ _ rfl; omega
              have z471 : ra M452 o0 8 ((880 + ra M0 o0 6 44).toNat) = 3 := (E456 _).trans (if_pos h470)
              have K472 : rK M0 M452 o0 ((880 + ra M0 o0 6 44).toNat) := K214.st A457 E456 (by have := mz_nat9 (i := v46) (by have := R197.1 15 _ _ rfl; have := R197.1 16 _ _ rfl; have := R197.1 19 _ _ rfl; omega); have := R197.1 15 _ _ rfl; have := R197.1 16 _ _ rfl; have := R197.1 19 _ _ rfl; omega)
              have K473 : nN M452 o0 := K215.same (sA_a A457 (by decide +kernel)) (sF_a V458)
              have K474 : ∀ i : Nat, i ≠ 44 → ra M452 o0 6 i = ra M0 o0 6 i := (by have e9 := ((sA_a A457 (by decide +kernel)) : sA [6] _ _ _) 6 rfl; rw [e9]; exact K216)
              have Z9475 : pO M452 o0 pb pn pa s68 := Z9217.same (fun k _ _ => V458 k) (V458 23) (A457 13 (by decide) rfl)
              clear z203 z204 z205 z207 z208 z209 z210 z211 z212
              refine mv_aload_n d_TrustDeskModel_readRule_118 rfl rfl ?_
              refine tr_getK (k := 8) (K454 _ 13 8 _ q222) d_TrustDeskModel_readRule_119 f_TrustDeskModel_29_13 ?_
              refine mv_iload_n d_TrustDeskModel_readRule_122 rfl rfl ?_
              refine tr_ialdR (o := o0) (k := 8) I453 (K454 _ 13 8 _ q222) t202 (by decide) d_TrustDeskModel_readRule_123 (vp_in_iff.mpr (by have := R455.1 15 _ _ rfl; have := R455.1 16 _ _ rfl; have := R455.1 19 _ _ rfl; omega)) (fun v476 e477 => ?_)
              have := R455.a (k := 8) rfl (v46 : Int32).toNatClampNeg
              have h478 : (880 + ra M0 o0 6 44).toNat = v46.toNatClampNeg := by have := mz_nat9 (i := v46) (by have := R455.1 15 _ _ rfl; have := R455.1 16 _ _ rfl; have := R455.1 19 _ _ rfl; omega); have := R455.1 15 _ _ rfl; have := R455.1 16 _ _ rfl; have := R455.1 19 _ _ rfl; omega
              have z479 : v476.toInt = ra M452 o0 8 ((880 + ra M0 o0 6 44).toNat) := by rw [e477, h478]
              have : v476.toInt = _ := Eq.trans z479 z471
              refine mv_iconst (v := (-1)) d_TrustDeskModel_readRule_124 (by decide) ?_
              have := mz_hi v476
              refine mv_icmp_neZ (tgt := 133) (a := v476.toInt) (b := (-1)) d_TrustDeskModel_readRule_125 (by decide) rfl (by decide) (fun b480 => ?_) (fun b480 => absurd b480 (by omega))
              refine mv_aload_n d_TrustDeskModel_readRule_133 rfl rfl ?_
              obtain ⟨_, b481, -⟩ := I453.1 _ _ t201
              refine mv_callV (kc1 := 0) (ks1 := 0) (kc' := 0) (ks' := 0) (As := []) (st9 := [.ref o0]) d_TrustDeskModel_readRule_134 lV_TrustDeskModel_230 b481 rfl (mj_enter (by decide) (Nat.le_of_ble_eq_true rfl) ?_) rfl (Nat.le_of_ble_eq_true rfl) (Nat.le_of_ble_eq_true rfl) (Nat.le_of_ble_eq_true rfl) (hst := rfl) (fun _ _ _ h => h)
              refine mv_aload_n d_TrustDeskModel_isWell_0 rfl rfl ?_
              refine tr_getK (k := 19) (K454 _ 13 19 _ q221) d_TrustDeskModel_isWell_1 f_TrustDeskModel_224_13 ?_
              have := mz_hi v37
              refine mv_if_neZ (tgt := 11) (a := v37.toInt) d_TrustDeskModel_isWell_4 (by decide) rfl (fun b482 => absurd b482 (by omega)) (fun b482 => ?_)
              refine mv_iconst (v := 1) d_TrustDeskModel_isWell_7 (by decide) ?_
              refine mv_goto (tgt := 12) d_TrustDeskModel_isWell_8 (by decide) ?_
              refine mv_iret d_TrustDeskModel_isWell_12 rfl (by decide) ?_
              refine mv_if_eq_f (tgt := 144) d_TrustDeskModel_readRule_137 (by decide) (by decide) ?_
              refine mv_aload_n d_TrustDeskModel_readRule_140 rfl rfl ?_
              obtain ⟨_, b489, -⟩ := I453.1 _ _ t201
              refine mv_callV (kc' := 0) (ks' := 0) (As := []) (st9 := [.ref o0]) d_TrustDeskModel_readRule_141 lV_TrustDeskModel_237 b489 rfl (tc_TrustDeskModel_next_x (d := (d + 23)) (x9 := x9) (o0 := o0) t201 R455 Z9475.p I453.start) rfl (Nat.le_of_ble_eq_true rfl) (Nat.le_of_ble_eq_true rfl) (Nat.le_of_ble_eq_true rfl) (hst := rfl) (fun b483r M484 n485 b483 => ?_)
              obtain ⟨T486, J487, rfl, R490, f491, f492, f493⟩ := b483
              have I488 := I453.call J487 (tm_sub (by decide)) (Or.inl rfl)
              have t494 := J487.up t201
              have z495 := (rv_c I453 J487 (I453.up h_o0) (k := 19) rfl).trans z462
              have z496 := (rv_c I453 J487 (I453.up h_o0) (k := 22) rfl).trans z463
              have z497 := (rv_c I453 J487 (I453.up h_o0) (k := 24) rfl).trans z464
              have z498 := (ra_call I453 J487 (I453.up h_o0) (k := 5) rfl rfl rfl 44).trans z465
              have z499 := (ra_call I453 J487 (I453.up h_o0) (k := 6) rfl rfl rfl 44).trans z466
              have z500 := (ra_call I453 J487 (I453.up h_o0) (k := 7) rfl rfl rfl ((880 + ra M0 o0 6 44).toNat)).trans z467
              have z501 := (ra_call I453 J487 (I453.up h_o0) (k := 10) rfl rfl rfl ((880 + ra M0 o0 6 44).toNat)).trans z468
              have z502 := (ra_call I453 J487 (I453.up h_o0) (k := 8) rfl rfl rfl ((880 + ra M0 o0 6 44).toNat)).trans z471
              have h504 : rv M452 o0 16 + 1 ≤ rv M452 o0 15 := (by have := f198.o (by omega); have := E469.1.2.1 (by omega); omega)
              have E503 : rE M0 M484 o0 0 2 := E469.next f491 f492 (rv_c I453 J487 (I453.up h_o0) (k := 19) rfl) (rE_ha I453 J487 (I453.up h_o0) (by decide)) (e := 1) h504 (by decide)
              have K505 : rK M0 M484 o0 ((880 + ra M0 o0 6 44).toNat) := K472.same (sA_c I453 J487 (I453.up h_o0) (by decide +kernel))
              have K506 : nN M484 o0 := K473.same (sA_c I453 J487 (I453.up h_o0) (by decide +kernel)) (sF_c I453 J487 (I453.up h_o0) (by decide +kernel))
              have K507 : ∀ i : Nat, i ≠ 44 → ra M484 o0 6 i = ra M0 o0 6 i := (by have e9 := ((sA_c I453 J487 (I453.up h_o0) (by decide +kernel)) : sA [6] _ _ _) 6 rfl; rw [e9]; exact K474)
              obtain ⟨s508, e509⟩ : ∃ s9 : p_S, p_nx s68 = s9 := ⟨_, rfl⟩
              rw [e509] at f493
              have := f493.w
              clear z463 z464 z465 z466 z467 z468 z471
              have q510 := J487.keep t201 (by decide) (K454 _ 13 6 _ q219)
              have t511 := J487.up t220
              have q512 := J487.keep t201 (by decide) (K454 _ 13 19 _ q221)
              have q513 := J487.keep t201 (by decide) (K454 _ 13 8 _ q222)
              have t514 := J487.up t202
              refine mv_aload_n d_TrustDeskModel_readRule_144 rfl rfl ?_
              refine mv_ldcSw (id := 25) (tx := "if") d_TrustDeskModel_readRule_145 (List.mem_of_getElem? (i := 15) rfl) ?_
              obtain ⟨_, b521, -⟩ := I488.1 _ _ t494
              refine mv_callV (kc' := 0) (ks' := 0) (As := [.ref 25]) (st9 := [.ref 25, .ref o0]) d_TrustDeskModel_readRule_148 lV_TrustDeskModel_329 b521 rfl (tc_TrustDeskModel_wantWord_s1_25_x (d := (d + 19)) (x9 := x9) (o0 := o0) t494 R490 E503.1 (E503.s yS (by decide)) f493 I488.start) rfl (Nat.le_of_ble_eq_true rfl) (Nat.le_of_ble_eq_true rfl) (Nat.le_of_ble_eq_true rfl) (hst := rfl) (fun b515r M516 n517 b515 => ?_)
              obtain ⟨T518, J519, rfl, R522, f523, f524⟩ := b515
              have I520 := I488.call J519 (tm_sub (by decide)) (Or.inl rfl)
              have t525 := J519.up t494
              have := f523.2.1
              have f526 := Im.i f523.w.2
              have f527 := Im.i f523.w2
              have z528 := (rv_c I488 J519 (I488.up h_o0) (k := 22) rfl).trans z496
              have z529 := (rv_c I488 J519 (I488.up h_o0) (k := 24) rfl).trans z497
              have z530 := (ra_call I488 J519 (I488.up h_o0) (k := 5) rfl rfl rfl 44).trans z498
              have z531 := (ra_call I488 J519 (I488.up h_o0) (k := 6) rfl rfl rfl 44).trans z499
              have z532 := (ra_call I488 J519 (I488.up h_o0) (k := 7) rfl rfl rfl ((880 + ra M0 o0 6 44).toNat)).trans z500
              have z533 := (ra_call I488 J519 (I488.up h_o0) (k := 10) rfl rfl rfl ((880 + ra M0 o0 6 44).toNat)).trans z501
              have z534 := (ra_call I488 J519 (I488.up h_o0) (k := 8) rfl rfl rfl ((880 + ra M0 o0 6 44).toNat)).trans z502
              have E535 : rE M0 M516 o0 0 3 := E503.trans f523 (by decide) (yR.2 5 _ _ rfl 44).1 (by decide) (by decide)
              have K536 : rK M0 M516 o0 ((880 + ra M0 o0 6 44).toNat) := K505.same (sA_c I488 J519 (I488.up h_o0) (by decide +kernel))
              have K537 : nN M516 o0 := K506.same (sA_c I488 J519 (I488.up h_o0) (by decide +kernel)) (sF_c I488 J519 (I488.up h_o0) (by decide +kernel))
              have K538 : ∀ i : Nat, i ≠ 44 → ra M516 o0 6 i = ra M0 o0 6 i := (by have e9 := ((sA_c I488 J519 (I488.up h_o0) (by decide +kernel)) : sA [6] _ _ _) 6 rfl; rw [e9]; exact K507)
              obtain ⟨s539, e540⟩ : ∃ s9 : p_S, p_wd pb pn 28 s508 = s9 := ⟨_, rfl⟩
              rw [e540] at f524
              have := f524.w
              clear z496 z497 z498 z499 z500 z501 z502
              have q541 := J519.keep t494 (by decide) q510
              have t542 := J519.up t511
              have q543 := J519.keep t494 (by decide) q513
              have t544 := J519.up t514
              refine mv_aload_n d_TrustDeskModel_readRule_151 rfl rfl ?_
              obtain ⟨a546, q545, t_a546⟩ := tm_atR I520 t525 (k := 11) rfl
              refine tr_getK q545 d_TrustDeskModel_readRule_152 f_TrustDeskModel_38_13 ?_
              refine mv_iload_n d_TrustDeskModel_readRule_155 rfl rfl ?_
              refine mv_aload_n d_TrustDeskModel_readRule_156 rfl rfl ?_
              obtain ⟨a548, q547, t_a548⟩ := tm_atR I520 t525 (k := 5) rfl
              refine tr_getK q547 d_TrustDeskModel_readRule_157 f_TrustDeskModel_20_13 ?_
              refine mv_bipush (v := 44) d_TrustDeskModel_readRule_160 (by decide) ?_
              refine tr_ialdR (o := o0) (k := 5) I520 q547 t_a548 (by decide) d_TrustDeskModel_readRule_162 (by unfold vp_in; decide) (fun v549 e550 => ?_)
              have := R522.a (k := 5) rfl (44 : Int32).toNatClampNeg
              have : v549.toInt = ra M516 o0 5 44 := e550
              have : v549.toInt = _ := Eq.trans e550 z530
              refine tr_iastR (k := 11) I520 R522 (I520.up h_o0) q545 t_a546 (by decide) (by decide) (fun lo hi h => by cases h; have := R522.1 15 _ _ rfl; have := R522.1 16 _ _ rfl; have := R522.1 19 _ _ rfl; exact ⟨by show (0 : Int) ≤ v549.toInt; omega, by show v549.toInt ≤ (400 : Int); omega⟩) (Or.inl (by decide)) d_TrustDeskModel_readRule_163 (vp_in_iff.mpr (by have := R522.1 15 _ _ rfl; have := R522.1 16 _ _ rfl; have := R522.1 19 _ _ rfl; omega)) (fun M551 I552 K553 R554 E555 A556 V557 => ?_)
              have z558 := (V557 15)
              have z559 := (V557 16)
              have z560 := (V557 17)
              have z561 := (V557 19)
              have z562 := (V557 22).trans z528
              have z563 := (V557 24).trans z529
              have z564 := (A556 5 (by decide) rfl 44).trans z530
              have z565 := (A556 6 (by decide) rfl 44).trans z531
              have z566 := (A556 7 (by decide) rfl ((880 + ra M0 o0 6 44).toNat)).trans z532
              have z567 := (A556 10 (by decide) rfl ((880 + ra M0 o0 6 44).toNat)).trans z533
              have z568 := (A556 8 (by decide) rfl ((880 + ra M0 o0 6 44).toNat)).trans z534
              have E569 : rE M0 M551 o0 0 3 := E535.same (fun k _ _ => V557 k) (fun k h1 h2 => A556 k (by omega) (by rcases (show k = 4 ∨ k = 5 by omega) with rfl | rfl <;> rfl))
              have h570 : (880 + ra M0 o0 6 44).toNat = v46.toNatClampNeg := by have := mz_nat9 (i := v46) (by have := R522.1 15 _ _ rfl; have := R522.1 16 _ _ rfl; have := R522.1 19 _ _ rfl; omega); have := R522.1 15 _ _ rfl; have := R522.1 16 _ _ rfl; have := R522.1 19 _ _ rfl; omega
              have z571 : ra M551 o0 11 ((880 + ra M0 o0 6 44).toNat) = v549.toInt := (E555 _).trans (if_pos h570)
              have K572 : rK M0 M551 o0 ((880 + ra M0 o0 6 44).toNat) := K536.st A556 E555 (by have := mz_nat9 (i := v46) (by have := R522.1 15 _ _ rfl; have := R522.1 16 _ _ rfl; have := R522.1 19 _ _ rfl; omega); have := R522.1 15 _ _ rfl; have := R522.1 16 _ _ rfl; have := R522.1 19 _ _ rfl; omega)
              have K573 : nN M551 o0 := K537.same (sA_a A556 (by decide +kernel)) (sF_a V557)
              have K574 : ∀ i : Nat, i ≠ 44 → ra M551 o0 6 i = ra M0 o0 6 i := (by have e9 := ((sA_a A556 (by decide +kernel)) : sA [6] _ _ _) 6 rfl; rw [e9]; exact K538)
              have F575 : rE M551 M551 o0 0 0 := rE.rf E569.1
              have : ra M551 o0 5 44 = v549.toInt := by omega
              have Z9576 : pO M551 o0 pb pn pa s539 := f524.same (fun k _ _ => V557 k) (V557 23) (A556 13 (by decide) rfl)
              clear z528 z529 z530 z531 z532 z533 z534
              refine mv_aload_n d_TrustDeskModel_readRule_164 rfl rfl ?_
              obtain ⟨_, b583, -⟩ := I552.1 _ _ t525
              refine mv_callV (kc' := 0) (ks' := 0) (As := []) (st9 := [.ref o0]) d_TrustDeskModel_readRule_165 lV_TrustDeskModel_302 b583 rfl (tc_TrustDeskModel_cond_q5_x (d := d) (x9 := x9) (o0 := o0) t525 R554 E569.1 (E569.s yS (by decide)) (Classical.byCases (fun w9 : rv M551 o0 19 = 0 => by have u91 : rv M516 o0 19 = 0 := (by omega); have := f526.o u91; have := f527.o u91; have u92 : rv M40 o0 19 = 0 := (by omega); have := f57.o u92; have := f58.o u92; omega) (fun w9 : ¬ rv M551 o0 19 = 0 => by omega)) Z9576 I552.start) rfl (Nat.le_of_ble_eq_true rfl) (Nat.le_of_ble_eq_true rfl) (Nat.le_of_ble_eq_true rfl) (hst := rfl) (fun b577r M578 n579 b577 => ?_)
              obtain ⟨T580, J581, rfl, R584, f585, f586, f587⟩ := b577
              have I582 := I552.call J581 (tm_sub (by decide)) (Or.inl rfl)
              have t588 := J581.up t525
              have := f585.2.1
              have f589 := Im.i f585.w.2
              have f590 := Im.i f585.w2
              replace f586 := Im.i f586
              have z591 := (rv_c I552 J581 (I552.up h_o0) (k := 24) rfl).trans z563
              have z592 := (ra_call I552 J581 (I552.up h_o0) (k := 6) rfl rfl rfl 44).trans z565
              have z593 := (ra_call I552 J581 (I552.up h_o0) (k := 7) rfl rfl rfl ((880 + ra M0 o0 6 44).toNat)).trans z566
              have z594 := (ra_call I552 J581 (I552.up h_o0) (k := 10) rfl rfl rfl ((880 + ra M0 o0 6 44).toNat)).trans z567
              have z595 := (ra_call I552 J581 (I552.up h_o0) (k := 8) rfl rfl rfl ((880 + ra M0 o0 6 44).toNat)).trans z568
              have z596 := (ra_call I552 J581 (I552.up h_o0) (k := 11) rfl rfl rfl ((880 + ra M0 o0 6 44).toNat)).trans z571
              have E597 : rE M0 M578 o0 1 3 := E569.trans f585 (by decide) (yR.2 5 _ _ rfl 44).1 (by decide) (by decide)
              have K598 : rK M0 M578 o0 ((880 + ra M0 o0 6 44).toNat) := K572.same (sA_c I552 J581 (I552.up h_o0) (by decide +kernel))
              have K599 : nN M578 o0 := K573.same (sA_c I552 J581 (I552.up h_o0) (by decide +kernel)) (sF_c I552 J581 (I552.up h_o0) (by decide +kernel))
              have K600 : ∀ i : Nat, i ≠ 44 → ra M578 o0 6 i = ra M0 o0 6 i := (by have e9 := ((sA_c I552 J581 (I552.up h_o0) (by decide +kernel)) : sA [6] _ _ _) 6 rfl; rw [e9]; exact K574)
              have F601 : rE M551 M578 o0 1 0 := F575.trans f585 (by decide) (R554.2 5 _ _ rfl 44).1 (by decide) (by decide)
              obtain ⟨s602, e603⟩ : ∃ s9 : p_S, p_con pb pn pa 4 (p_oc pb pn pa 4) s539 = s9 := ⟨_, rfl⟩
              rw [e603] at f587
              have := f587.w
              clear z563 z565 z566 z567 z568 z571
              have q604 := J581.keep t525 (by decide) (K553 _ 13 6 _ q541)
              have t605 := J581.up t542
              have q606 := J581.keep t525 (by decide) (K553 _ 13 8 _ q543)
              have t607 := J581.up t544
              have q608 := J581.keep t525 (by decide) (K553 _ 13 11 _ q545)
              have t609 := J581.up t_a546
              have q610 := J581.keep t525 (by decide) (K553 _ 13 5 _ q547)
              have t611 := J581.up t_a548
              refine mv_goto (tgt := 251) d_TrustDeskModel_readRule_168 (by decide) ?_
              refine mv_aload_n d_TrustDeskModel_readRule_251 rfl rfl ?_
              refine mv_bipush (v := 59) d_TrustDeskModel_readRule_252 (by decide) ?_
              obtain ⟨_, b618, -⟩ := I582.1 _ _ t588
              have : (59 : Int32).toInt = 59 := by decide
              refine mv_callV (kc' := 0) (ks' := 0) (As := [.int 59]) (st9 := [.int 59, .ref o0]) d_TrustDeskModel_readRule_254 lV_TrustDeskModel_291 b618 rfl (tc_TrustDeskModel_wantSign_x (d := (d + 22)) (x9 := x9) (o0 := o0) (x1 := 59) t588 R584 E597.1 (E597.s yS (by decide)) (by decide) f587 I582.start) rfl (Nat.le_of_ble_eq_true rfl) (Nat.le_of_ble_eq_true rfl) (Nat.le_of_ble_eq_true rfl) (hst := rfl) (fun b612r M613 n614 b612 => ?_)
              obtain ⟨T615, J616, rfl, R619, f620, f621⟩ := b612
              have I617 := I582.call J616 (tm_sub (by decide)) (Or.inl rfl)
              have t622 := J616.up t588
              have := f620.2.1
              have f623 := Im.i f620.w.2
              have f624 := Im.i f620.w2
              have z625 := (rv_c I582 J616 (I582.up h_o0) (k := 22) rfl)
              have z626 := (rv_c I582 J616 (I582.up h_o0) (k := 24) rfl).trans z591
              have z627 := (ra_call I582 J616 (I582.up h_o0) (k := 5) rfl rfl rfl 44)
              have z628 := (ra_call I582 J616 (I582.up h_o0) (k := 6) rfl rfl rfl 44).trans z592
              have z629 := (ra_call I582 J616 (I582.up h_o0) (k := 7) rfl rfl rfl ((880 + ra M0 o0 6 44).toNat)).trans z593
              have z630 := (ra_call I582 J616 (I582.up h_o0) (k := 10) rfl rfl rfl ((880 + ra M0 o0 6 44).toNat)).trans z594
              have z631 := (ra_call I582 J616 (I582.up h_o0) (k := 8) rfl rfl rfl ((880 + ra M0 o0 6 44).toNat)).trans z595
              have z632 := (ra_call I582 J616 (I582.up h_o0) (k := 11) rfl rfl rfl ((880 + ra M0 o0 6 44).toNat)).trans z596
              have E633 : rE M0 M613 o0 1 4 := E597.trans f620 (by decide) (yR.2 5 _ _ rfl 44).1 (by decide) (by decide)
              have K634 : rK M0 M613 o0 ((880 + ra M0 o0 6 44).toNat) := K598.same (sA_c I582 J616 (I582.up h_o0) (by decide +kernel))
              have K635 : nN M613 o0 := K599.same (sA_c I582 J616 (I582.up h_o0) (by decide +kernel)) (sF_c I582 J616 (I582.up h_o0) (by decide +kernel))
              have K636 : ∀ i : Nat, i ≠ 44 → ra M613 o0 6 i = ra M0 o0 6 i := (by have e9 := ((sA_c I582 J616 (I582.up h_o0) (by decide +kernel)) : sA [6] _ _ _) 6 rfl; rw [e9]; exact K600)
              have F637 : rE M551 M613 o0 1 1 := F601.trans f620 (by decide) (R554.2 5 _ _ rfl 44).1 (by decide) (by decide)
              rw [show (59 : Int32).toInt = 59 from by decide] at f621
              obtain ⟨s638, e639⟩ : ∃ s9 : p_S, p_sg pb pn 59 s602 = s9 := ⟨_, rfl⟩
              rw [e639] at f621
              have := f621.w
              clear z591 z592 z593 z594 z595 z596
              have q640 := J616.keep t588 (by decide) q604
              have t641 := J616.up t605
              have q642 := J616.keep t588 (by decide) q606
              have t643 := J616.up t607
              have q644 := J616.keep t588 (by decide) q608
              have t645 := J616.up t609
              have q646 := J616.keep t588 (by decide) q610
              have t647 := J616.up t611
              refine mv_aload_n d_TrustDeskModel_readRule_257 rfl rfl ?_
              obtain ⟨a649, q648, t_a649⟩ := tm_atR I617 t622 (k := 12) rfl
              refine tr_getK q648 d_TrustDeskModel_readRule_258 f_TrustDeskModel_41_13 ?_
              refine mv_iload_n d_TrustDeskModel_readRule_261 rfl rfl ?_
              refine mv_aload_n d_TrustDeskModel_readRule_262 rfl rfl ?_
              refine tr_getK (k := 5) q646 d_TrustDeskModel_readRule_263 f_TrustDeskModel_20_13 ?_
              refine mv_bipush (v := 44) d_TrustDeskModel_readRule_266 (by decide) ?_
              refine tr_ialdR (o := o0) (k := 5) I617 q646 t647 (by decide) d_TrustDeskModel_readRule_268 (by unfold vp_in; decide) (fun v650 e651 => ?_)
              have := R619.a (k := 5) rfl (44 : Int32).toNatClampNeg
              have : v650.toInt = ra M613 o0 5 44 := e651
              have : v650.toInt = _ := Eq.trans e651 z627
              refine tr_iastR (k := 12) I617 R619 (I617.up h_o0) q648 t_a649 (by decide) (by decide) (fun lo hi h => by cases h; have := R619.1 15 _ _ rfl; have := R619.1 16 _ _ rfl; have := R619.1 19 _ _ rfl; exact ⟨by show (0 : Int) ≤ v650.toInt; omega, by show v650.toInt ≤ (400 : Int); omega⟩) (Or.inl (by decide)) d_TrustDeskModel_readRule_269 (vp_in_iff.mpr (by have := R619.1 15 _ _ rfl; have := R619.1 16 _ _ rfl; have := R619.1 19 _ _ rfl; omega)) (fun M652 I653 K654 R655 E656 A657 V658 => ?_)
              have z659 := (V658 15)
              have z660 := (V658 16)
              have z661 := (V658 17)
              have z662 := (V658 19)
              have z663 := (V658 22).trans z625
              have z664 := (V658 24).trans z626
              have z665 := (A657 5 (by decide) rfl 44).trans z627
              have z666 := (A657 6 (by decide) rfl 44).trans z628
              have z667 := (A657 7 (by decide) rfl ((880 + ra M0 o0 6 44).toNat)).trans z629
              have z668 := (A657 10 (by decide) rfl ((880 + ra M0 o0 6 44).toNat)).trans z630
              have z669 := (A657 8 (by decide) rfl ((880 + ra M0 o0 6 44).toNat)).trans z631
              have z670 := (A657 11 (by decide) rfl ((880 + ra M0 o0 6 44).toNat)).trans z632
              have E671 : rE M0 M652 o0 1 4 := E633.same (fun k _ _ => V658 k) (fun k h1 h2 => A657 k (by omega) (by rcases (show k = 4 ∨ k = 5 by omega) with rfl | rfl <;> rfl))
              have h672 : (880 + ra M0 o0 6 44).toNat = v46.toNatClampNeg := by have := mz_nat9 (i := v46) (by have := R619.1 15 _ _ rfl; have := R619.1 16 _ _ rfl; have := R619.1 19 _ _ rfl; omega); have := R619.1 15 _ _ rfl; have := R619.1 16 _ _ rfl; have := R619.1 19 _ _ rfl; omega
              have z673 : ra M652 o0 12 ((880 + ra M0 o0 6 44).toNat) = v650.toInt := (E656 _).trans (if_pos h672)
              have K674 : rK M0 M652 o0 ((880 + ra M0 o0 6 44).toNat) := K634.st A657 E656 (by have := mz_nat9 (i := v46) (by have := R619.1 15 _ _ rfl; have := R619.1 16 _ _ rfl; have := R619.1 19 _ _ rfl; omega); have := R619.1 15 _ _ rfl; have := R619.1 16 _ _ rfl; have := R619.1 19 _ _ rfl; omega)
              have K675 : nN M652 o0 := K635.same (sA_a A657 (by decide +kernel)) (sF_a V658)
              have K676 : ∀ i : Nat, i ≠ 44 → ra M652 o0 6 i = ra M0 o0 6 i := (by have e9 := ((sA_a A657 (by decide +kernel)) : sA [6] _ _ _) 6 rfl; rw [e9]; exact K636)
              have F677 : rE M551 M652 o0 1 1 := F637.same (fun k _ _ => V658 k) (fun k h1 h2 => A657 k (by omega) (by rcases (show k = 4 ∨ k = 5 by omega) with rfl | rfl <;> rfl))
              have Z9678 : pO M652 o0 pb pn pa s638 := f621.same (fun k _ _ => V658 k) (V658 23) (A657 13 (by decide) rfl)
              clear z625 z626 z627 z628 z629 z630 z631 z632
              exact mv_vret d_TrustDeskModel_readRule_270 rfl ⟨_, I653, rfl, R655, (rW.of E671.1 (E671.s yS (by decide)) (fun w9 => by have u91 : rv M613 o0 19 = 0 := (by omega); have := f623.o u91; have := f624.o u91; have u92 : rv M578 o0 19 = 0 := (by omega); have := f589.o u92; have := f590.o u92; have := f586.o u92; have u93 : rv M516 o0 19 = 0 := (by omega); have := f526.o u93; have := f527.o u93; have u94 : rv M40 o0 19 = 0 := (by omega); have := f57.o u94; have := f58.o u94; exact rG.step yG yR E671 w9 K674 (by have := yR.2 6 _ _ rfl 44; omega) (by have := R655.1 15 _ _ rfl; have := R655.1 16 _ _ rfl; have := R655.1 19 _ _ rfl; omega) (by have := R655.1 15 _ _ rfl; have := R655.1 16 _ _ rfl; have := R655.1 19 _ _ rfl; omega) (fun _ => rowN.of E569 F677 w9 (by decide) (by decide) (yR.2 5 _ _ rfl 44).1 (by have := R655.1 15 _ _ rfl; have := R655.1 16 _ _ rfl; have := R655.1 19 _ _ rfl; omega) (by have := R655.1 15 _ _ rfl; have := R655.1 16 _ _ rfl; have := R655.1 19 _ _ rfl; omega) (by have := R655.1 15 _ _ rfl; have := R655.1 16 _ _ rfl; have := R655.1 19 _ _ rfl; omega)) (fun h9 => (by have := R655.1 15 _ _ rfl; have := R655.1 16 _ _ rfl; have := R655.1 19 _ _ rfl; omega)) (by have := R655.1 15 _ _ rfl; have := R655.1 16 _ _ rfl; have := R655.1 19 _ _ rfl; omega) K675)), (rO.of E671 K674 (by have := yR.2 6 _ _ rfl 44; omega)), ⟨E671.2.1, fun w9 => by skip; have := E671.w2 w9; omega⟩, (fun w9 => by have u91 : rv M613 o0 19 = 0 := (by omega); have := f623.o u91; have := f624.o u91; have u92 : rv M578 o0 19 = 0 := (by omega); have := f589.o u92; have := f590.o u92; have := f586.o u92; have u93 : rv M516 o0 19 = 0 := (by omega); have := f526.o u93; have := f527.o u93; have u94 : rv M40 o0 19 = 0 := (by omega); have := f57.o u94; have := f58.o u94; omega), (by first | (have := pW0 (Im.o d107) (by omega); have := Z9106.wk; have := pW0 (Im.o d144) (by omega); have := pW0 (Im.o d181) (by omega); have := pW1 (Im.o d218) (by omega); rw [show p_rul pb pn pa pc9 ps = s638 from (by unfold p_rul; unfold p_bar; (try simp only [e69, e509, e540, e603, e639]); ((repeat' (first | (with_reducible rfl) | split)) <;> (first | ((try simp only [e69, e509, e540, e603, e639]); done) | ((try simp only [e69, e509, e540, e603, e639]); first | exact p_sg_Z _ (by omega) | exact (p_sg_Z _ (by omega)).symm | omega) | (exfalso; omega))))]; exact Z9678) | (exfalso; have := R655.1 15 _ _ rfl; have := R655.1 16 _ _ rfl; have := R655.1 19 _ _ rfl; omega)), (fun w9 => by have u91 : rv M613 o0 19 = 0 := (by omega); have := f623.o u91; have := f624.o u91; have u92 : rv M578 o0 19 = 0 := (by omega); have := f589.o u92; have := f590.o u92; have := f586.o u92; have u93 : rv M516 o0 19 = 0 := (by omega); have := f526.o u93; have := f527.o u93; have u94 : rv M40 o0 19 = 0 := (by omega); have := f57.o u94; have := f58.o u94; omega), K676, K674, (fun w9 => by have u91 : rv M613 o0 19 = 0 := (by omega); have := f623.o u91; have := f624.o u91; have u92 : rv M578 o0 19 = 0 := (by omega); have := f589.o u92; have := f590.o u92; have := f586.o u92; have u93 : rv M516 o0 19 = 0 := (by omega); have := f526.o u93; have := f527.o u93; have u94 : rv M40 o0 19 = 0 := (by omega); have := f57.o u94; have := f58.o u94; unfold rwA; have := pW0 (Im.o d107) (by omega); have := Z9106.wk; have := pW0 (Im.o d144) (by omega); have := pW0 (Im.o d181) (by omega); have := pW1 (Im.o d218) (by omega); omega)⟩
          · refine mv_iconst (v := 2) d_TrustDeskModel_readRule_98 (by decide) ?_
            refine mv_goto (tgt := 117) d_TrustDeskModel_readRule_99 (by decide) ?_
            refine tr_iastR (k := 8) I155 R160 (I155.up h_o0) q185 t165 (by decide) (by decide) (fun lo hi h => by cases h; have e9 : (2 : Int32).toInt = 2 := (by decide); exact ⟨by show ((-1) : Int) ≤ (2 : Int32).toInt; omega, by show (2 : Int32).toInt ≤ (720 : Int); omega⟩) (Or.inl (by decide)) d_TrustDeskModel_readRule_117 (vp_in_iff.mpr (by have := R160.1 15 _ _ rfl; have := R160.1 16 _ _ rfl; have := R160.1 19 _ _ rfl; omega)) (fun M679 I680 K681 R682 E683 A684 V685 => ?_)
            have z686 := (V685 15).trans z166
            have z687 := (V685 16).trans z167
            have z688 := (V685 17).trans z168
            have z689 := (V685 19).trans z169
            have z690 := (V685 22).trans z170
            have z691 := (V685 24).trans z171
            have z692 := (A684 5 (by decide) rfl 44).trans z172
            have z693 := (A684 6 (by decide) rfl 44).trans z173
            have z694 := (A684 7 (by decide) rfl ((880 + ra M0 o0 6 44).toNat)).trans z174
            have z695 := (A684 10 (by decide) rfl ((880 + ra M0 o0 6 44).toNat)).trans z175
            have E696 : rE M0 M679 o0 0 1 := E176.same (fun k _ _ => V685 k) (fun k h1 h2 => A684 k (by omega) (by rcases (show k = 4 ∨ k = 5 by omega) with rfl | rfl <;> rfl))
            have h697 : (880 + ra M0 o0 6 44).toNat = v46.toNatClampNeg := by have := mz_nat9 (i := v46) (by have := R160.1 15 _ _ rfl; have := R160.1 16 _ _ rfl; have := R160.1 19 _ _ rfl; omega); have := R160.1 15 _ _ rfl; have := R160.1 16 _ _ rfl; have := R160.1 19 _ _ rfl; omega
            have z698 : ra M679 o0 8 ((880 + ra M0 o0 6 44).toNat) = 2 := (E683 _).trans (if_pos h697)
            have K699 : rK M0 M679 o0 ((880 + ra M0 o0 6 44).toNat) := K177.st A684 E683 (by have := mz_nat9 (i := v46) (by have := R160.1 15 _ _ rfl; have := R160.1 16 _ _ rfl; have := R160.1 19 _ _ rfl; omega); have := R160.1 15 _ _ rfl; have := R160.1 16 _ _ rfl; have := R160.1 19 _ _ rfl; omega)
            have K700 : nN M679 o0 := K178.same (sA_a A684 (by decide +kernel)) (sF_a V685)
            have K701 : ∀ i : Nat, i ≠ 44 → ra M679 o0 6 i = ra M0 o0 6 i := (by have e9 := ((sA_a A684 (by decide +kernel)) : sA [6] _ _ _) 6 rfl; rw [e9]; exact K179)
            have Z9702 : pO M679 o0 pb pn pa s68 := Z9180.same (fun k _ _ => V685 k) (V685 23) (A684 13 (by decide) rfl)
            clear z166 z167 z168 z170 z171 z172 z173 z174 z175
            refine mv_aload_n d_TrustDeskModel_readRule_118 rfl rfl ?_
            refine tr_getK (k := 8) (K681 _ 13 8 _ q185) d_TrustDeskModel_readRule_119 f_TrustDeskModel_29_13 ?_
            refine mv_iload_n d_TrustDeskModel_readRule_122 rfl rfl ?_
            refine tr_ialdR (o := o0) (k := 8) I680 (K681 _ 13 8 _ q185) t165 (by decide) d_TrustDeskModel_readRule_123 (vp_in_iff.mpr (by have := R682.1 15 _ _ rfl; have := R682.1 16 _ _ rfl; have := R682.1 19 _ _ rfl; omega)) (fun v703 e704 => ?_)
            have := R682.a (k := 8) rfl (v46 : Int32).toNatClampNeg
            have h705 : (880 + ra M0 o0 6 44).toNat = v46.toNatClampNeg := by have := mz_nat9 (i := v46) (by have := R682.1 15 _ _ rfl; have := R682.1 16 _ _ rfl; have := R682.1 19 _ _ rfl; omega); have := R682.1 15 _ _ rfl; have := R682.1 16 _ _ rfl; have := R682.1 19 _ _ rfl; omega
            have z706 : v703.toInt = ra M679 o0 8 ((880 + ra M0 o0 6 44).toNat) := by rw [e704, h705]
            have : v703.toInt = _ := Eq.trans z706 z698
            refine mv_iconst (v := (-1)) d_TrustDeskModel_readRule_124 (by decide) ?_
            have := mz_hi v703
            refine mv_icmp_neZ (tgt := 133) (a := v703.toInt) (b := (-1)) d_TrustDeskModel_readRule_125 (by decide) rfl (by decide) (fun b707 => ?_) (fun b707 => absurd b707 (by omega))
            refine mv_aload_n d_TrustDeskModel_readRule_133 rfl rfl ?_
            obtain ⟨_, b708, -⟩ := I680.1 _ _ t164
            refine mv_callV (kc1 := 0) (ks1 := 0) (kc' := 0) (ks' := 0) (As := []) (st9 := [.ref o0]) d_TrustDeskModel_readRule_134 lV_TrustDeskModel_230 b708 rfl (mj_enter (by decide) (Nat.le_of_ble_eq_true rfl) ?_) rfl (Nat.le_of_ble_eq_true rfl) (Nat.le_of_ble_eq_true rfl) (Nat.le_of_ble_eq_true rfl) (hst := rfl) (fun _ _ _ h => h)
            refine mv_aload_n d_TrustDeskModel_isWell_0 rfl rfl ?_
            refine tr_getK (k := 19) (K681 _ 13 19 _ q184) d_TrustDeskModel_isWell_1 f_TrustDeskModel_224_13 ?_
            have := mz_hi v37
            refine mv_if_neZ (tgt := 11) (a := v37.toInt) d_TrustDeskModel_isWell_4 (by decide) rfl (fun b709 => absurd b709 (by omega)) (fun b709 => ?_)
            refine mv_iconst (v := 1) d_TrustDeskModel_isWell_7 (by decide) ?_
            refine mv_goto (tgt := 12) d_TrustDeskModel_isWell_8 (by decide) ?_
            refine mv_iret d_TrustDeskModel_isWell_12 rfl (by decide) ?_
            refine mv_if_eq_f (tgt := 144) d_TrustDeskModel_readRule_137 (by decide) (by decide) ?_
            refine mv_aload_n d_TrustDeskModel_readRule_140 rfl rfl ?_
            obtain ⟨_, b716, -⟩ := I680.1 _ _ t164
            refine mv_callV (kc' := 0) (ks' := 0) (As := []) (st9 := [.ref o0]) d_TrustDeskModel_readRule_141 lV_TrustDeskModel_237 b716 rfl (tc_TrustDeskModel_next_x (d := (d + 23)) (x9 := x9) (o0 := o0) t164 R682 Z9702.p I680.start) rfl (Nat.le_of_ble_eq_true rfl) (Nat.le_of_ble_eq_true rfl) (Nat.le_of_ble_eq_true rfl) (hst := rfl) (fun b710r M711 n712 b710 => ?_)
            obtain ⟨T713, J714, rfl, R717, f718, f719, f720⟩ := b710
            have I715 := I680.call J714 (tm_sub (by decide)) (Or.inl rfl)
            have t721 := J714.up t164
            have z722 := (rv_c I680 J714 (I680.up h_o0) (k := 19) rfl).trans z689
            have z723 := (rv_c I680 J714 (I680.up h_o0) (k := 22) rfl).trans z690
            have z724 := (rv_c I680 J714 (I680.up h_o0) (k := 24) rfl).trans z691
            have z725 := (ra_call I680 J714 (I680.up h_o0) (k := 5) rfl rfl rfl 44).trans z692
            have z726 := (ra_call I680 J714 (I680.up h_o0) (k := 6) rfl rfl rfl 44).trans z693
            have z727 := (ra_call I680 J714 (I680.up h_o0) (k := 7) rfl rfl rfl ((880 + ra M0 o0 6 44).toNat)).trans z694
            have z728 := (ra_call I680 J714 (I680.up h_o0) (k := 10) rfl rfl rfl ((880 + ra M0 o0 6 44).toNat)).trans z695
            have z729 := (ra_call I680 J714 (I680.up h_o0) (k := 8) rfl rfl rfl ((880 + ra M0 o0 6 44).toNat)).trans z698
            have h731 : rv M679 o0 16 + 1 ≤ rv M679 o0 15 := (by have := f161.o (by omega); have := E696.1.2.1 (by omega); omega)
            have E730 : rE M0 M711 o0 0 2 := E696.next f718 f719 (rv_c I680 J714 (I680.up h_o0) (k := 19) rfl) (rE_ha I680 J714 (I680.up h_o0) (by decide)) (e := 1) h731 (by decide)
            have K732 : rK M0 M711 o0 ((880 + ra M0 o0 6 44).toNat) := K699.same (sA_c I680 J714 (I680.up h_o0) (by decide +kernel))
            have K733 : nN M711 o0 := K700.same (sA_c I680 J714 (I680.up h_o0) (by decide +kernel)) (sF_c I680 J714 (I680.up h_o0) (by decide +kernel))
            have K734 : ∀ i : Nat, i ≠ 44 → ra M711 o0 6 i = ra M0 o0 6 i := (by have e9 := ((sA_c I680 J714 (I680.up h_o0) (by decide +kernel)) : sA [6] _ _ _) 6 rfl; rw [e9]; exact K701)
            obtain ⟨s735, e736⟩ : ∃ s9 : p_S, p_nx s68 = s9 := ⟨_, rfl⟩
            rw [e736] at f720
            have := f720.w
            clear z690 z691 z692 z693 z694 z695 z698
            have q737 := J714.keep t164 (by decide) (K681 _ 13 6 _ q182)
            have t738 := J714.up t183
            have q739 := J714.keep t164 (by decide) (K681 _ 13 19 _ q184)
            have q740 := J714.keep t164 (by decide) (K681 _ 13 8 _ q185)
            have t741 := J714.up t165
            refine mv_aload_n d_TrustDeskModel_readRule_144 rfl rfl ?_
            refine mv_ldcSw (id := 25) (tx := "if") d_TrustDeskModel_readRule_145 (List.mem_of_getElem? (i := 15) rfl) ?_
            obtain ⟨_, b748, -⟩ := I715.1 _ _ t721
            refine mv_callV (kc' := 0) (ks' := 0) (As := [.ref 25]) (st9 := [.ref 25, .ref o0]) d_TrustDeskModel_readRule_148 lV_TrustDeskModel_329 b748 rfl (tc_TrustDeskModel_wantWord_s1_25_x (d := (d + 19)) (x9 := x9) (o0 := o0) t721 R717 E730.1 (E730.s yS (by decide)) f720 I715.start) rfl (Nat.le_of_ble_eq_true rfl) (Nat.le_of_ble_eq_true rfl) (Nat.le_of_ble_eq_true rfl) (hst := rfl) (fun b742r M743 n744 b742 => ?_)
            obtain ⟨T745, J746, rfl, R749, f750, f751⟩ := b742
            have I747 := I715.call J746 (tm_sub (by decide)) (Or.inl rfl)
            have t752 := J746.up t721
            have := f750.2.1
            have f753 := Im.i f750.w.2
            have f754 := Im.i f750.w2
            have z755 := (rv_c I715 J746 (I715.up h_o0) (k := 22) rfl).trans z723
            have z756 := (rv_c I715 J746 (I715.up h_o0) (k := 24) rfl).trans z724
            have z757 := (ra_call I715 J746 (I715.up h_o0) (k := 5) rfl rfl rfl 44).trans z725
            have z758 := (ra_call I715 J746 (I715.up h_o0) (k := 6) rfl rfl rfl 44).trans z726
            have z759 := (ra_call I715 J746 (I715.up h_o0) (k := 7) rfl rfl rfl ((880 + ra M0 o0 6 44).toNat)).trans z727
            have z760 := (ra_call I715 J746 (I715.up h_o0) (k := 10) rfl rfl rfl ((880 + ra M0 o0 6 44).toNat)).trans z728
            have z761 := (ra_call I715 J746 (I715.up h_o0) (k := 8) rfl rfl rfl ((880 + ra M0 o0 6 44).toNat)).trans z729
            have E762 : rE M0 M743 o0 0 3 := E730.trans f750 (by decide) (yR.2 5 _ _ rfl 44).1 (by decide) (by decide)
            have K763 : rK M0 M743 o0 ((880 + ra M0 o0 6 44).toNat) := K732.same (sA_c I715 J746 (I715.up h_o0) (by decide +kernel))
            have K764 : nN M743 o0 := K733.same (sA_c I715 J746 (I715.up h_o0) (by decide +kernel)) (sF_c I715 J746 (I715.up h_o0) (by decide +kernel))
            have K765 : ∀ i : Nat, i ≠ 44 → ra M743 o0 6 i = ra M0 o0 6 i := (by have e9 := ((sA_c I715 J746 (I715.up h_o0) (by decide +kernel)) : sA [6] _ _ _) 6 rfl; rw [e9]; exact K734)
            obtain ⟨s766, e767⟩ : ∃ s9 : p_S, p_wd pb pn 28 s735 = s9 := ⟨_, rfl⟩
            rw [e767] at f751
            have := f751.w
            clear z723 z724 z725 z726 z727 z728 z729
            have q768 := J746.keep t721 (by decide) q737
            have t769 := J746.up t738
            have q770 := J746.keep t721 (by decide) q740
            have t771 := J746.up t741
            refine mv_aload_n d_TrustDeskModel_readRule_151 rfl rfl ?_
            obtain ⟨a773, q772, t_a773⟩ := tm_atR I747 t752 (k := 11) rfl
            refine tr_getK q772 d_TrustDeskModel_readRule_152 f_TrustDeskModel_38_13 ?_
            refine mv_iload_n d_TrustDeskModel_readRule_155 rfl rfl ?_
            refine mv_aload_n d_TrustDeskModel_readRule_156 rfl rfl ?_
            obtain ⟨a775, q774, t_a775⟩ := tm_atR I747 t752 (k := 5) rfl
            refine tr_getK q774 d_TrustDeskModel_readRule_157 f_TrustDeskModel_20_13 ?_
            refine mv_bipush (v := 44) d_TrustDeskModel_readRule_160 (by decide) ?_
            refine tr_ialdR (o := o0) (k := 5) I747 q774 t_a775 (by decide) d_TrustDeskModel_readRule_162 (by unfold vp_in; decide) (fun v776 e777 => ?_)
            have := R749.a (k := 5) rfl (44 : Int32).toNatClampNeg
            have : v776.toInt = ra M743 o0 5 44 := e777
            have : v776.toInt = _ := Eq.trans e777 z757
            refine tr_iastR (k := 11) I747 R749 (I747.up h_o0) q772 t_a773 (by decide) (by decide) (fun lo hi h => by cases h; have := R749.1 15 _ _ rfl; have := R749.1 16 _ _ rfl; have := R749.1 19 _ _ rfl; exact ⟨by show (0 : Int) ≤ v776.toInt; omega, by show v776.toInt ≤ (400 : Int); omega⟩) (Or.inl (by decide)) d_TrustDeskModel_readRule_163 (vp_in_iff.mpr (by have := R749.1 15 _ _ rfl; have := R749.1 16 _ _ rfl; have := R749.1 19 _ _ rfl; omega)) (fun M778 I779 K780 R781 E782 A783 V784 => ?_)
            have z785 := (V784 15)
            have z786 := (V784 16)
            have z787 := (V784 17)
            have z788 := (V784 19)
            have z789 := (V784 22).trans z755
            have z790 := (V784 24).trans z756
            have z791 := (A783 5 (by decide) rfl 44).trans z757
            have z792 := (A783 6 (by decide) rfl 44).trans z758
            have z793 := (A783 7 (by decide) rfl ((880 + ra M0 o0 6 44).toNat)).trans z759
            have z794 := (A783 10 (by decide) rfl ((880 + ra M0 o0 6 44).toNat)).trans z760
            have z795 := (A783 8 (by decide) rfl ((880 + ra M0 o0 6 44).toNat)).trans z761
            have E796 : rE M0 M778 o0 0 3 := E762.same (fun k _ _ => V784 k) (fun k h1 h2 => A783 k (by omega) (by rcases (show k = 4 ∨ k = 5 by omega) with rfl | rfl <;> rfl))
            have h797 : (880 + ra M0 o0 6 44).toNat = v46.toNatClampNeg := by have := mz_nat9 (i := v46) (by have := R749.1 15 _ _ rfl; have := R749.1 16 _ _ rfl; have := R749.1 19 _ _ rfl; omega); have := R749.1 15 _ _ rfl; have := R749.1 16 _ _ rfl; have := R749.1 19 _ _ rfl; omega
            have z798 : ra M778 o0 11 ((880 + ra M0 o0 6 44).toNat) = v776.toInt := (E782 _).trans (if_pos h797)
            have K799 : rK M0 M778 o0 ((880 + ra M0 o0 6 44).toNat) := K763.st A783 E782 (by have := mz_nat9 (i := v46) (by have := R749.1 15 _ _ rfl; have := R749.1 16 _ _ rfl; have := R749.1 19 _ _ rfl; omega); have := R749.1 15 _ _ rfl; have := R749.1 16 _ _ rfl; have := R749.1 19 _ _ rfl; omega)
            have K800 : nN M778 o0 := K764.same (sA_a A783 (by decide +kernel)) (sF_a V784)
            have K801 : ∀ i : Nat, i ≠ 44 → ra M778 o0 6 i = ra M0 o0 6 i := (by have e9 := ((sA_a A783 (by decide +kernel)) : sA [6] _ _ _) 6 rfl; rw [e9]; exact K765)
            have F802 : rE M778 M778 o0 0 0 := rE.rf E796.1
            have : ra M778 o0 5 44 = v776.toInt := by omega
            have Z9803 : pO M778 o0 pb pn pa s766 := f751.same (fun k _ _ => V784 k) (V784 23) (A783 13 (by decide) rfl)
            clear z755 z756 z757 z758 z759 z760 z761
            refine mv_aload_n d_TrustDeskModel_readRule_164 rfl rfl ?_
            obtain ⟨_, b810, -⟩ := I779.1 _ _ t752
            refine mv_callV (kc' := 0) (ks' := 0) (As := []) (st9 := [.ref o0]) d_TrustDeskModel_readRule_165 lV_TrustDeskModel_302 b810 rfl (tc_TrustDeskModel_cond_q5_x (d := d) (x9 := x9) (o0 := o0) t752 R781 E796.1 (E796.s yS (by decide)) (Classical.byCases (fun w9 : rv M778 o0 19 = 0 => by have u91 : rv M743 o0 19 = 0 := (by omega); have := f753.o u91; have := f754.o u91; have u92 : rv M40 o0 19 = 0 := (by omega); have := f57.o u92; have := f58.o u92; omega) (fun w9 : ¬ rv M778 o0 19 = 0 => by omega)) Z9803 I779.start) rfl (Nat.le_of_ble_eq_true rfl) (Nat.le_of_ble_eq_true rfl) (Nat.le_of_ble_eq_true rfl) (hst := rfl) (fun b804r M805 n806 b804 => ?_)
            obtain ⟨T807, J808, rfl, R811, f812, f813, f814⟩ := b804
            have I809 := I779.call J808 (tm_sub (by decide)) (Or.inl rfl)
            have t815 := J808.up t752
            have := f812.2.1
            have f816 := Im.i f812.w.2
            have f817 := Im.i f812.w2
            replace f813 := Im.i f813
            have z818 := (rv_c I779 J808 (I779.up h_o0) (k := 24) rfl).trans z790
            have z819 := (ra_call I779 J808 (I779.up h_o0) (k := 6) rfl rfl rfl 44).trans z792
            have z820 := (ra_call I779 J808 (I779.up h_o0) (k := 7) rfl rfl rfl ((880 + ra M0 o0 6 44).toNat)).trans z793
            have z821 := (ra_call I779 J808 (I779.up h_o0) (k := 10) rfl rfl rfl ((880 + ra M0 o0 6 44).toNat)).trans z794
            have z822 := (ra_call I779 J808 (I779.up h_o0) (k := 8) rfl rfl rfl ((880 + ra M0 o0 6 44).toNat)).trans z795
            have z823 := (ra_call I779 J808 (I779.up h_o0) (k := 11) rfl rfl rfl ((880 + ra M0 o0 6 44).toNat)).trans z798
            have E824 : rE M0 M805 o0 1 3 := E796.trans f812 (by decide) (yR.2 5 _ _ rfl 44).1 (by decide) (by decide)
            have K825 : rK M0 M805 o0 ((880 + ra M0 o0 6 44).toNat) := K799.same (sA_c I779 J808 (I779.up h_o0) (by decide +kernel))
            have K826 : nN M805 o0 := K800.same (sA_c I779 J808 (I779.up h_o0) (by decide +kernel)) (sF_c I779 J808 (I779.up h_o0) (by decide +kernel))
            have K827 : ∀ i : Nat, i ≠ 44 → ra M805 o0 6 i = ra M0 o0 6 i := (by have e9 := ((sA_c I779 J808 (I779.up h_o0) (by decide +kernel)) : sA [6] _ _ _) 6 rfl; rw [e9]; exact K801)
            have F828 : rE M778 M805 o0 1 0 := F802.trans f812 (by decide) (R781.2 5 _ _ rfl 44).1 (by decide) (by decide)
            obtain ⟨s829, e830⟩ : ∃ s9 : p_S, p_con pb pn pa 4 (p_oc pb pn pa 4) s766 = s9 := ⟨_, rfl⟩
            rw [e830] at f814
            have := f814.w
            clear z790 z792 z793 z794 z795 z798
            have q831 := J808.keep t752 (by decide) (K780 _ 13 6 _ q768)
            have t832 := J808.up t769
            have q833 := J808.keep t752 (by decide) (K780 _ 13 8 _ q770)
            have t834 := J808.up t771
            have q835 := J808.keep t752 (by decide) (K780 _ 13 11 _ q772)
            have t836 := J808.up t_a773
            have q837 := J808.keep t752 (by decide) (K780 _ 13 5 _ q774)
            have t838 := J808.up t_a775
            refine mv_goto (tgt := 251) d_TrustDeskModel_readRule_168 (by decide) ?_
            refine mv_aload_n d_TrustDeskModel_readRule_251 rfl rfl ?_
            refine mv_bipush (v := 59) d_TrustDeskModel_readRule_252 (by decide) ?_
            obtain ⟨_, b845, -⟩ := I809.1 _ _ t815
            have : (59 : Int32).toInt = 59 := by decide
            refine mv_callV (kc' := 0) (ks' := 0) (As := [.int 59]) (st9 := [.int 59, .ref o0]) d_TrustDeskModel_readRule_254 lV_TrustDeskModel_291 b845 rfl (tc_TrustDeskModel_wantSign_x (d := (d + 22)) (x9 := x9) (o0 := o0) (x1 := 59) t815 R811 E824.1 (E824.s yS (by decide)) (by decide) f814 I809.start) rfl (Nat.le_of_ble_eq_true rfl) (Nat.le_of_ble_eq_true rfl) (Nat.le_of_ble_eq_true rfl) (hst := rfl) (fun b839r M840 n841 b839 => ?_)
            obtain ⟨T842, J843, rfl, R846, f847, f848⟩ := b839
            have I844 := I809.call J843 (tm_sub (by decide)) (Or.inl rfl)
            have t849 := J843.up t815
            have := f847.2.1
            have f850 := Im.i f847.w.2
            have f851 := Im.i f847.w2
            have z852 := (rv_c I809 J843 (I809.up h_o0) (k := 22) rfl)
            have z853 := (rv_c I809 J843 (I809.up h_o0) (k := 24) rfl).trans z818
            have z854 := (ra_call I809 J843 (I809.up h_o0) (k := 5) rfl rfl rfl 44)
            have z855 := (ra_call I809 J843 (I809.up h_o0) (k := 6) rfl rfl rfl 44).trans z819
            have z856 := (ra_call I809 J843 (I809.up h_o0) (k := 7) rfl rfl rfl ((880 + ra M0 o0 6 44).toNat)).trans z820
            have z857 := (ra_call I809 J843 (I809.up h_o0) (k := 10) rfl rfl rfl ((880 + ra M0 o0 6 44).toNat)).trans z821
            have z858 := (ra_call I809 J843 (I809.up h_o0) (k := 8) rfl rfl rfl ((880 + ra M0 o0 6 44).toNat)).trans z822
            have z859 := (ra_call I809 J843 (I809.up h_o0) (k := 11) rfl rfl rfl ((880 + ra M0 o0 6 44).toNat)).trans z823
            have E860 : rE M0 M840 o0 1 4 := E824.trans f847 (by decide) (yR.2 5 _ _ rfl 44).1 (by decide) (by decide)
            have K861 : rK M0 M840 o0 ((880 + ra M0 o0 6 44).toNat) := K825.same (sA_c I809 J843 (I809.up h_o0) (by decide +kernel))
            have K862 : nN M840 o0 := K826.same (sA_c I809 J843 (I809.up h_o0) (by decide +kernel)) (sF_c I809 J843 (I809.up h_o0) (by decide +kernel))
            have K863 : ∀ i : Nat, i ≠ 44 → ra M840 o0 6 i = ra M0 o0 6 i := (by have e9 := ((sA_c I809 J843 (I809.up h_o0) (by decide +kernel)) : sA [6] _ _ _) 6 rfl; rw [e9]; exact K827)
            have F864 : rE M778 M840 o0 1 1 := F828.trans f847 (by decide) (R781.2 5 _ _ rfl 44).1 (by decide) (by decide)
            rw [show (59 : Int32).toInt = 59 from by decide] at f848
            obtain ⟨s865, e866⟩ : ∃ s9 : p_S, p_sg pb pn 59 s829 = s9 := ⟨_, rfl⟩
            rw [e866] at f848
            have := f848.w
            clear z818 z819 z820 z821 z822 z823
            have q867 := J843.keep t815 (by decide) q831
            have t868 := J843.up t832
            have q869 := J843.keep t815 (by decide) q833
            have t870 := J843.up t834
            have q871 := J843.keep t815 (by decide) q835
            have t872 := J843.up t836
            have q873 := J843.keep t815 (by decide) q837
            have t874 := J843.up t838
            refine mv_aload_n d_TrustDeskModel_readRule_257 rfl rfl ?_
            obtain ⟨a876, q875, t_a876⟩ := tm_atR I844 t849 (k := 12) rfl
            refine tr_getK q875 d_TrustDeskModel_readRule_258 f_TrustDeskModel_41_13 ?_
            refine mv_iload_n d_TrustDeskModel_readRule_261 rfl rfl ?_
            refine mv_aload_n d_TrustDeskModel_readRule_262 rfl rfl ?_
            refine tr_getK (k := 5) q873 d_TrustDeskModel_readRule_263 f_TrustDeskModel_20_13 ?_
            refine mv_bipush (v := 44) d_TrustDeskModel_readRule_266 (by decide) ?_
            refine tr_ialdR (o := o0) (k := 5) I844 q873 t874 (by decide) d_TrustDeskModel_readRule_268 (by unfold vp_in; decide) (fun v877 e878 => ?_)
            have := R846.a (k := 5) rfl (44 : Int32).toNatClampNeg
            have : v877.toInt = ra M840 o0 5 44 := e878
            have : v877.toInt = _ := Eq.trans e878 z854
            refine tr_iastR (k := 12) I844 R846 (I844.up h_o0) q875 t_a876 (by decide) (by decide) (fun lo hi h => by cases h; have := R846.1 15 _ _ rfl; have := R846.1 16 _ _ rfl; have := R846.1 19 _ _ rfl; exact ⟨by show (0 : Int) ≤ v877.toInt; omega, by show v877.toInt ≤ (400 : Int); omega⟩) (Or.inl (by decide)) d_TrustDeskModel_readRule_269 (vp_in_iff.mpr (by have := R846.1 15 _ _ rfl; have := R846.1 16 _ _ rfl; have := R846.1 19 _ _ rfl; omega)) (fun M879 I880 K881 R882 E883 A884 V885 => ?_)
            have z886 := (V885 15)
            have z887 := (V885 16)
            have z888 := (V885 17)
            have z889 := (V885 19)
            have z890 := (V885 22).trans z852
            have z891 := (V885 24).trans z853
            have z892 := (A884 5 (by decide) rfl 44).trans z854
            have z893 := (A884 6 (by decide) rfl 44).trans z855
            have z894 := (A884 7 (by decide) rfl ((880 + ra M0 o0 6 44).toNat)).trans z856
            have z895 := (A884 10 (by decide) rfl ((880 + ra M0 o0 6 44).toNat)).trans z857
            have z896 := (A884 8 (by decide) rfl ((880 + ra M0 o0 6 44).toNat)).trans z858
            have z897 := (A884 11 (by decide) rfl ((880 + ra M0 o0 6 44).toNat)).trans z859
            have E898 : rE M0 M879 o0 1 4 := E860.same (fun k _ _ => V885 k) (fun k h1 h2 => A884 k (by omega) (by rcases (show k = 4 ∨ k = 5 by omega) with rfl | rfl <;> rfl))
            have h899 : (880 + ra M0 o0 6 44).toNat = v46.toNatClampNeg := by have := mz_nat9 (i := v46) (by have := R846.1 15 _ _ rfl; have := R846.1 16 _ _ rfl; have := R846.1 19 _ _ rfl; omega); have := R846.1 15 _ _ rfl; have := R846.1 16 _ _ rfl; have := R846.1 19 _ _ rfl; omega
            have z900 : ra M879 o0 12 ((880 + ra M0 o0 6 44).toNat) = v877.toInt := (E883 _).trans (if_pos h899)
            have K901 : rK M0 M879 o0 ((880 + ra M0 o0 6 44).toNat) := K861.st A884 E883 (by have := mz_nat9 (i := v46) (by have := R846.1 15 _ _ rfl; have := R846.1 16 _ _ rfl; have := R846.1 19 _ _ rfl; omega); have := R846.1 15 _ _ rfl; have := R846.1 16 _ _ rfl; have := R846.1 19 _ _ rfl; omega)
            have K902 : nN M879 o0 := K862.same (sA_a A884 (by decide +kernel)) (sF_a V885)
            have K903 : ∀ i : Nat, i ≠ 44 → ra M879 o0 6 i = ra M0 o0 6 i := (by have e9 := ((sA_a A884 (by decide +kernel)) : sA [6] _ _ _) 6 rfl; rw [e9]; exact K863)
            have F904 : rE M778 M879 o0 1 1 := F864.same (fun k _ _ => V885 k) (fun k h1 h2 => A884 k (by omega) (by rcases (show k = 4 ∨ k = 5 by omega) with rfl | rfl <;> rfl))
            have Z9905 : pO M879 o0 pb pn pa s865 := f848.same (fun k _ _ => V885 k) (V885 23) (A884 13 (by decide) rfl)
            clear z852 z853 z854 z855 z856 z857 z858 z859
            exact mv_vret d_TrustDeskModel_readRule_270 rfl ⟨_, I880, rfl, R882, (rW.of E898.1 (E898.s yS (by decide)) (fun w9 => by have u91 : rv M840 o0 19 = 0 := (by omega); have := f850.o u91; have := f851.o u91; have u92 : rv M805 o0 19 = 0 := (by omega); have := f816.o u92; have := f817.o u92; have := f813.o u92; have u93 : rv M743 o0 19 = 0 := (by omega); have := f753.o u93; have := f754.o u93; have u94 : rv M40 o0 19 = 0 := (by omega); have := f57.o u94; have := f58.o u94; exact rG.step yG yR E898 w9 K901 (by have := yR.2 6 _ _ rfl 44; omega) (by have := R882.1 15 _ _ rfl; have := R882.1 16 _ _ rfl; have := R882.1 19 _ _ rfl; omega) (by have := R882.1 15 _ _ rfl; have := R882.1 16 _ _ rfl; have := R882.1 19 _ _ rfl; omega) (fun _ => rowN.of E796 F904 w9 (by decide) (by decide) (yR.2 5 _ _ rfl 44).1 (by have := R882.1 15 _ _ rfl; have := R882.1 16 _ _ rfl; have := R882.1 19 _ _ rfl; omega) (by have := R882.1 15 _ _ rfl; have := R882.1 16 _ _ rfl; have := R882.1 19 _ _ rfl; omega) (by have := R882.1 15 _ _ rfl; have := R882.1 16 _ _ rfl; have := R882.1 19 _ _ rfl; omega)) (fun h9 => (by have := R882.1 15 _ _ rfl; have := R882.1 16 _ _ rfl; have := R882.1 19 _ _ rfl; omega)) (by have := R882.1 15 _ _ rfl; have := R882.1 16 _ _ rfl; have := R882.1 19 _ _ rfl; omega) K902)), (rO.of E898 K901 (by have := yR.2 6 _ _ rfl 44; omega)), ⟨E898.2.1, fun w9 => by skip; have := E898.w2 w9; omega⟩, (fun w9 => by have u91 : rv M840 o0 19 = 0 := (by omega); have := f850.o u91; have := f851.o u91; have u92 : rv M805 o0 19 = 0 := (by omega); have := f816.o u92; have := f817.o u92; have := f813.o u92; have u93 : rv M743 o0 19 = 0 := (by omega); have := f753.o u93; have := f754.o u93; have u94 : rv M40 o0 19 = 0 := (by omega); have := f57.o u94; have := f58.o u94; omega), (by first | (have := pW0 (Im.o d107) (by omega); have := Z9106.wk; have := pW0 (Im.o d144) (by omega); have := pW1 (Im.o d181) (by omega); rw [show p_rul pb pn pa pc9 ps = s865 from (by unfold p_rul; unfold p_bar; (try simp only [e69, e736, e767, e830, e866]); ((repeat' (first | (with_reducible rfl) | split)) <;> (first | ((try simp only [e69, e736, e767, e830, e866]); done) | ((try simp only [e69, e736, e767, e830, e866]); first | exact p_sg_Z _ (by omega) | exact (p_sg_Z _ (by omega)).symm | omega) | (exfalso; omega))))]; exact Z9905) | (exfalso; have := R882.1 15 _ _ rfl; have := R882.1 16 _ _ rfl; have := R882.1 19 _ _ rfl; omega)), (fun w9 => by have u91 : rv M840 o0 19 = 0 := (by omega); have := f850.o u91; have := f851.o u91; have u92 : rv M805 o0 19 = 0 := (by omega); have := f816.o u92; have := f817.o u92; have := f813.o u92; have u93 : rv M743 o0 19 = 0 := (by omega); have := f753.o u93; have := f754.o u93; have u94 : rv M40 o0 19 = 0 := (by omega); have := f57.o u94; have := f58.o u94; omega), K903, K901, (fun w9 => by have u91 : rv M840 o0 19 = 0 := (by omega); have := f850.o u91; have := f851.o u91; have u92 : rv M805 o0 19 = 0 := (by omega); have := f816.o u92; have := f817.o u92; have := f813.o u92; have u93 : rv M743 o0 19 = 0 := (by omega); have := f753.o u93; have := f754.o u93; have u94 : rv M40 o0 19 = 0 := (by omega); have := f57.o u94; have := f58.o u94; unfold rwA; have := pW0 (Im.o d107) (by omega); have := Z9106.wk; have := pW0 (Im.o d144) (by omega); have := pW1 (Im.o d181) (by omega); omega)⟩
        · refine mv_iconst (v := 1) d_TrustDeskModel_readRule_84 (by decide) ?_
          refine mv_goto (tgt := 117) d_TrustDeskModel_readRule_85 (by decide) ?_
          refine tr_iastR (k := 8) I118 R123 (I118.up h_o0) q148 t128 (by decide) (by decide) (fun lo hi h => by cases h; have e9 : (1 : Int32).toInt = 1 := (by decide); exact ⟨by show ((-1) : Int) ≤ (1 : Int32).toInt; omega, by show (1 : Int32).toInt ≤ (720 : Int); omega⟩) (Or.inl (by decide)) d_TrustDeskModel_readRule_117 (vp_in_iff.mpr (by have := R123.1 15 _ _ rfl; have := R123.1 16 _ _ rfl; have := R123.1 19 _ _ rfl; omega)) (fun M906 I907 K908 R909 E910 A911 V912 => ?_)
          have z913 := (V912 15).trans z129
          have z914 := (V912 16).trans z130
          have z915 := (V912 17).trans z131
          have z916 := (V912 19).trans z132
          have z917 := (V912 22).trans z133
          have z918 := (V912 24).trans z134
          have z919 := (A911 5 (by decide) rfl 44).trans z135
          have z920 := (A911 6 (by decide) rfl 44).trans z136
          have z921 := (A911 7 (by decide) rfl ((880 + ra M0 o0 6 44).toNat)).trans z137
          have z922 := (A911 10 (by decide) rfl ((880 + ra M0 o0 6 44).toNat)).trans z138
          have E923 : rE M0 M906 o0 0 1 := E139.same (fun k _ _ => V912 k) (fun k h1 h2 => A911 k (by omega) (by rcases (show k = 4 ∨ k = 5 by omega) with rfl | rfl <;> rfl))
          have h924 : (880 + ra M0 o0 6 44).toNat = v46.toNatClampNeg := by have := mz_nat9 (i := v46) (by have := R123.1 15 _ _ rfl; have := R123.1 16 _ _ rfl; have := R123.1 19 _ _ rfl; omega); have := R123.1 15 _ _ rfl; have := R123.1 16 _ _ rfl; have := R123.1 19 _ _ rfl; omega
          have z925 : ra M906 o0 8 ((880 + ra M0 o0 6 44).toNat) = 1 := (E910 _).trans (if_pos h924)
          have K926 : rK M0 M906 o0 ((880 + ra M0 o0 6 44).toNat) := K140.st A911 E910 (by have := mz_nat9 (i := v46) (by have := R123.1 15 _ _ rfl; have := R123.1 16 _ _ rfl; have := R123.1 19 _ _ rfl; omega); have := R123.1 15 _ _ rfl; have := R123.1 16 _ _ rfl; have := R123.1 19 _ _ rfl; omega)
          have K927 : nN M906 o0 := K141.same (sA_a A911 (by decide +kernel)) (sF_a V912)
          have K928 : ∀ i : Nat, i ≠ 44 → ra M906 o0 6 i = ra M0 o0 6 i := (by have e9 := ((sA_a A911 (by decide +kernel)) : sA [6] _ _ _) 6 rfl; rw [e9]; exact K142)
          have Z9929 : pO M906 o0 pb pn pa s68 := Z9143.same (fun k _ _ => V912 k) (V912 23) (A911 13 (by decide) rfl)
          clear z129 z130 z131 z133 z134 z135 z136 z137 z138
          refine mv_aload_n d_TrustDeskModel_readRule_118 rfl rfl ?_
          refine tr_getK (k := 8) (K908 _ 13 8 _ q148) d_TrustDeskModel_readRule_119 f_TrustDeskModel_29_13 ?_
          refine mv_iload_n d_TrustDeskModel_readRule_122 rfl rfl ?_
          refine tr_ialdR (o := o0) (k := 8) I907 (K908 _ 13 8 _ q148) t128 (by decide) d_TrustDeskModel_readRule_123 (vp_in_iff.mpr (by have := R909.1 15 _ _ rfl; have := R909.1 16 _ _ rfl; have := R909.1 19 _ _ rfl; omega)) (fun v930 e931 => ?_)
          have := R909.a (k := 8) rfl (v46 : Int32).toNatClampNeg
          have h932 : (880 + ra M0 o0 6 44).toNat = v46.toNatClampNeg := by have := mz_nat9 (i := v46) (by have := R909.1 15 _ _ rfl; have := R909.1 16 _ _ rfl; have := R909.1 19 _ _ rfl; omega); have := R909.1 15 _ _ rfl; have := R909.1 16 _ _ rfl; have := R909.1 19 _ _ rfl; omega
          have z933 : v930.toInt = ra M906 o0 8 ((880 + ra M0 o0 6 44).toNat) := by rw [e931, h932]
          have : v930.toInt = _ := Eq.trans z933 z925
          refine mv_iconst (v := (-1)) d_TrustDeskModel_readRule_124 (by decide) ?_
          have := mz_hi v930
          refine mv_icmp_neZ (tgt := 133) (a := v930.toInt) (b := (-1)) d_TrustDeskModel_readRule_125 (by decide) rfl (by decide) (fun b934 => ?_) (fun b934 => absurd b934 (by omega))
          refine mv_aload_n d_TrustDeskModel_readRule_133 rfl rfl ?_
          obtain ⟨_, b935, -⟩ := I907.1 _ _ t127
          refine mv_callV (kc1 := 0) (ks1 := 0) (kc' := 0) (ks' := 0) (As := []) (st9 := [.ref o0]) d_TrustDeskModel_readRule_134 lV_TrustDeskModel_230 b935 rfl (mj_enter (by decide) (Nat.le_of_ble_eq_true rfl) ?_) rfl (Nat.le_of_ble_eq_true rfl) (Nat.le_of_ble_eq_true rfl) (Nat.le_of_ble_eq_true rfl) (hst := rfl) (fun _ _ _ h => h)
          refine mv_aload_n d_TrustDeskModel_isWell_0 rfl rfl ?_
          refine tr_getK (k := 19) (K908 _ 13 19 _ q147) d_TrustDeskModel_isWell_1 f_TrustDeskModel_224_13 ?_
          have := mz_hi v37
          refine mv_if_neZ (tgt := 11) (a := v37.toInt) d_TrustDeskModel_isWell_4 (by decide) rfl (fun b936 => absurd b936 (by omega)) (fun b936 => ?_)
          refine mv_iconst (v := 1) d_TrustDeskModel_isWell_7 (by decide) ?_
          refine mv_goto (tgt := 12) d_TrustDeskModel_isWell_8 (by decide) ?_
          refine mv_iret d_TrustDeskModel_isWell_12 rfl (by decide) ?_
          refine mv_if_eq_f (tgt := 144) d_TrustDeskModel_readRule_137 (by decide) (by decide) ?_
          refine mv_aload_n d_TrustDeskModel_readRule_140 rfl rfl ?_
          obtain ⟨_, b943, -⟩ := I907.1 _ _ t127
          refine mv_callV (kc' := 0) (ks' := 0) (As := []) (st9 := [.ref o0]) d_TrustDeskModel_readRule_141 lV_TrustDeskModel_237 b943 rfl (tc_TrustDeskModel_next_x (d := (d + 23)) (x9 := x9) (o0 := o0) t127 R909 Z9929.p I907.start) rfl (Nat.le_of_ble_eq_true rfl) (Nat.le_of_ble_eq_true rfl) (Nat.le_of_ble_eq_true rfl) (hst := rfl) (fun b937r M938 n939 b937 => ?_)
          obtain ⟨T940, J941, rfl, R944, f945, f946, f947⟩ := b937
          have I942 := I907.call J941 (tm_sub (by decide)) (Or.inl rfl)
          have t948 := J941.up t127
          have z949 := (rv_c I907 J941 (I907.up h_o0) (k := 19) rfl).trans z916
          have z950 := (rv_c I907 J941 (I907.up h_o0) (k := 22) rfl).trans z917
          have z951 := (rv_c I907 J941 (I907.up h_o0) (k := 24) rfl).trans z918
          have z952 := (ra_call I907 J941 (I907.up h_o0) (k := 5) rfl rfl rfl 44).trans z919
          have z953 := (ra_call I907 J941 (I907.up h_o0) (k := 6) rfl rfl rfl 44).trans z920
          have z954 := (ra_call I907 J941 (I907.up h_o0) (k := 7) rfl rfl rfl ((880 + ra M0 o0 6 44).toNat)).trans z921
          have z955 := (ra_call I907 J941 (I907.up h_o0) (k := 10) rfl rfl rfl ((880 + ra M0 o0 6 44).toNat)).trans z922
          have z956 := (ra_call I907 J941 (I907.up h_o0) (k := 8) rfl rfl rfl ((880 + ra M0 o0 6 44).toNat)).trans z925
          have h958 : rv M906 o0 16 + 1 ≤ rv M906 o0 15 := (by have := f124.o (by omega); have := E923.1.2.1 (by omega); omega)
          have E957 : rE M0 M938 o0 0 2 := E923.next f945 f946 (rv_c I907 J941 (I907.up h_o0) (k := 19) rfl) (rE_ha I907 J941 (I907.up h_o0) (by decide)) (e := 1) h958 (by decide)
          have K959 : rK M0 M938 o0 ((880 + ra M0 o0 6 44).toNat) := K926.same (sA_c I907 J941 (I907.up h_o0) (by decide +kernel))
          have K960 : nN M938 o0 := K927.same (sA_c I907 J941 (I907.up h_o0) (by decide +kernel)) (sF_c I907 J941 (I907.up h_o0) (by decide +kernel))
          have K961 : ∀ i : Nat, i ≠ 44 → ra M938 o0 6 i = ra M0 o0 6 i := (by have e9 := ((sA_c I907 J941 (I907.up h_o0) (by decide +kernel)) : sA [6] _ _ _) 6 rfl; rw [e9]; exact K928)
          obtain ⟨s962, e963⟩ : ∃ s9 : p_S, p_nx s68 = s9 := ⟨_, rfl⟩
          rw [e963] at f947
          have := f947.w
          clear z917 z918 z919 z920 z921 z922 z925
          have q964 := J941.keep t127 (by decide) (K908 _ 13 6 _ q145)
          have t965 := J941.up t146
          have q966 := J941.keep t127 (by decide) (K908 _ 13 19 _ q147)
          have q967 := J941.keep t127 (by decide) (K908 _ 13 8 _ q148)
          have t968 := J941.up t128
          refine mv_aload_n d_TrustDeskModel_readRule_144 rfl rfl ?_
          refine mv_ldcSw (id := 25) (tx := "if") d_TrustDeskModel_readRule_145 (List.mem_of_getElem? (i := 15) rfl) ?_
          obtain ⟨_, b975, -⟩ := I942.1 _ _ t948
          refine mv_callV (kc' := 0) (ks' := 0) (As := [.ref 25]) (st9 := [.ref 25, .ref o0]) d_TrustDeskModel_readRule_148 lV_TrustDeskModel_329 b975 rfl (tc_TrustDeskModel_wantWord_s1_25_x (d := (d + 19)) (x9 := x9) (o0 := o0) t948 R944 E957.1 (E957.s yS (by decide)) f947 I942.start) rfl (Nat.le_of_ble_eq_true rfl) (Nat.le_of_ble_eq_true rfl) (Nat.le_of_ble_eq_true rfl) (hst := rfl) (fun b969r M970 n971 b969 => ?_)
          obtain ⟨T972, J973, rfl, R976, f977, f978⟩ := b969
          have I974 := I942.call J973 (tm_sub (by decide)) (Or.inl rfl)
          have t979 := J973.up t948
          have := f977.2.1
          have f980 := Im.i f977.w.2
          have f981 := Im.i f977.w2
          have z982 := (rv_c I942 J973 (I942.up h_o0) (k := 22) rfl).trans z950
          have z983 := (rv_c I942 J973 (I942.up h_o0) (k := 24) rfl).trans z951
          have z984 := (ra_call I942 J973 (I942.up h_o0) (k := 5) rfl rfl rfl 44).trans z952
          have z985 := (ra_call I942 J973 (I942.up h_o0) (k := 6) rfl rfl rfl 44).trans z953
          have z986 := (ra_call I942 J973 (I942.up h_o0) (k := 7) rfl rfl rfl ((880 + ra M0 o0 6 44).toNat)).trans z954
          have z987 := (ra_call I942 J973 (I942.up h_o0) (k := 10) rfl rfl rfl ((880 + ra M0 o0 6 44).toNat)).trans z955
          have z988 := (ra_call I942 J973 (I942.up h_o0) (k := 8) rfl rfl rfl ((880 + ra M0 o0 6 44).toNat)).trans z956
          have E989 : rE M0 M970 o0 0 3 := E957.trans f977 (by decide) (yR.2 5 _ _ rfl 44).1 (by decide) (by decide)
          have K990 : rK M0 M970 o0 ((880 + ra M0 o0 6 44).toNat) := K959.same (sA_c I942 J973 (I942.up h_o0) (by decide +kernel))
          have K991 : nN M970 o0 := K960.same (sA_c I942 J973 (I942.up h_o0) (by decide +kernel)) (sF_c I942 J973 (I942.up h_o0) (by decide +kernel))
          have K992 : ∀ i : Nat, i ≠ 44 → ra M970 o0 6 i = ra M0 o0 6 i := (by have e9 := ((sA_c I942 J973 (I942.up h_o0) (by decide +kernel)) : sA [6] _ _ _) 6 rfl; rw [e9]; exact K961)
          obtain ⟨s993, e994⟩ : ∃ s9 : p_S, p_wd pb pn 28 s962 = s9 := ⟨_, rfl⟩
          rw [e994] at f978
          have := f978.w
          clear z950 z951 z952 z953 z954 z955 z956
          have q995 := J973.keep t948 (by decide) q964
          have t996 := J973.up t965
          have q997 := J973.keep t948 (by decide) q967
          have t998 := J973.up t968
          refine mv_aload_n d_TrustDeskModel_readRule_151 rfl rfl ?_
          obtain ⟨a1000, q999, t_a1000⟩ := tm_atR I974 t979 (k := 11) rfl
          refine tr_getK q999 d_TrustDeskModel_readRule_152 f_TrustDeskModel_38_13 ?_
          refine mv_iload_n d_TrustDeskModel_readRule_155 rfl rfl ?_
          refine mv_aload_n d_TrustDeskModel_readRule_156 rfl rfl ?_
          obtain ⟨a1002, q1001, t_a1002⟩ := tm_atR I974 t979 (k := 5) rfl
          refine tr_getK q1001 d_TrustDeskModel_readRule_157 f_TrustDeskModel_20_13 ?_
          refine mv_bipush (v := 44) d_TrustDeskModel_readRule_160 (by decide) ?_
          refine tr_ialdR (o := o0) (k := 5) I974 q1001 t_a1002 (by decide) d_TrustDeskModel_readRule_162 (by unfold vp_in; decide) (fun v1003 e1004 => ?_)
          have := R976.a (k := 5) rfl (44 : Int32).toNatClampNeg
          have : v1003.toInt = ra M970 o0 5 44 := e1004
          have : v1003.toInt = _ := Eq.trans e1004 z984
          refine tr_iastR (k := 11) I974 R976 (I974.up h_o0) q999 t_a1000 (by decide) (by decide) (fun lo hi h => by cases h; have := R976.1 15 _ _ rfl; have := R976.1 16 _ _ rfl; have := R976.1 19 _ _ rfl; exact ⟨by show (0 : Int) ≤ v1003.toInt; omega, by show v1003.toInt ≤ (400 : Int); omega⟩) (Or.inl (by decide)) d_TrustDeskModel_readRule_163 (vp_in_iff.mpr (by have := R976.1 15 _ _ rfl; have := R976.1 16 _ _ rfl; have := R976.1 19 _ _ rfl; omega)) (fun M1005 I1006 K1007 R1008 E1009 A1010 V1011 => ?_)
          have z1012 := (V1011 15)
          have z1013 := (V1011 16)
          have z1014 := (V1011 17)
          have z1015 := (V1011 19)
          have z1016 := (V1011 22).trans z982
          have z1017 := (V1011 24).trans z983
          have z1018 := (A1010 5 (by decide) rfl 44).trans z984
          have z1019 := (A1010 6 (by decide) rfl 44).trans z985
          have z1020 := (A1010 7 (by decide) rfl ((880 + ra M0 o0 6 44).toNat)).trans z986
          have z1021 := (A1010 10 (by decide) rfl ((880 + ra M0 o0 6 44).toNat)).trans z987
          have z1022 := (A1010 8 (by decide) rfl ((880 + ra M0 o0 6 44).toNat)).trans z988
          have E1023 : rE M0 M1005 o0 0 3 := E989.same (fun k _ _ => V1011 k) (fun k h1 h2 => A1010 k (by omega) (by rcases (show k = 4 ∨ k = 5 by omega) with rfl | rfl <;> rfl))
          have h1024 : (880 + ra M0 o0 6 44).toNat = v46.toNatClampNeg := by have := mz_nat9 (i := v46) (by have := R976.1 15 _ _ rfl; have := R976.1 16 _ _ rfl; have := R976.1 19 _ _ rfl; omega); have := R976.1 15 _ _ rfl; have := R976.1 16 _ _ rfl; have := R976.1 19 _ _ rfl; omega
          have z1025 : ra M1005 o0 11 ((880 + ra M0 o0 6 44).toNat) = v1003.toInt := (E1009 _).trans (if_pos h1024)
          have K1026 : rK M0 M1005 o0 ((880 + ra M0 o0 6 44).toNat) := K990.st A1010 E1009 (by have := mz_nat9 (i := v46) (by have := R976.1 15 _ _ rfl; have := R976.1 16 _ _ rfl; have := R976.1 19 _ _ rfl; omega); have := R976.1 15 _ _ rfl; have := R976.1 16 _ _ rfl; have := R976.1 19 _ _ rfl; omega)
          have K1027 : nN M1005 o0 := K991.same (sA_a A1010 (by decide +kernel)) (sF_a V1011)
          have K1028 : ∀ i : Nat, i ≠ 44 → ra M1005 o0 6 i = ra M0 o0 6 i := (by have e9 := ((sA_a A1010 (by decide +kernel)) : sA [6] _ _ _) 6 rfl; rw [e9]; exact K992)
          have F1029 : rE M1005 M1005 o0 0 0 := rE.rf E1023.1
          have : ra M1005 o0 5 44 = v1003.toInt := by omega
          have Z91030 : pO M1005 o0 pb pn pa s993 := f978.same (fun k _ _ => V1011 k) (V1011 23) (A1010 13 (by decide) rfl)
          clear z982 z983 z984 z985 z986 z987 z988
          refine mv_aload_n d_TrustDeskModel_readRule_164 rfl rfl ?_
          obtain ⟨_, b1037, -⟩ := I1006.1 _ _ t979
          refine mv_callV (kc' := 0) (ks' := 0) (As := []) (st9 := [.ref o0]) d_TrustDeskModel_readRule_165 lV_TrustDeskModel_302 b1037 rfl (tc_TrustDeskModel_cond_q5_x (d := d) (x9 := x9) (o0 := o0) t979 R1008 E1023.1 (E1023.s yS (by decide)) (Classical.byCases (fun w9 : rv M1005 o0 19 = 0 => by have u91 : rv M970 o0 19 = 0 := (by omega); have := f980.o u91; have := f981.o u91; have u92 : rv M40 o0 19 = 0 := (by omega); have := f57.o u92; have := f58.o u92; omega) (fun w9 : ¬ rv M1005 o0 19 = 0 => by omega)) Z91030 I1006.start) rfl (Nat.le_of_ble_eq_true rfl) (Nat.le_of_ble_eq_true rfl) (Nat.le_of_ble_eq_true rfl) (hst := rfl) (fun b1031r M1032 n1033 b1031 => ?_)
          obtain ⟨T1034, J1035, rfl, R1038, f1039, f1040, f1041⟩ := b1031
          have I1036 := I1006.call J1035 (tm_sub (by decide)) (Or.inl rfl)
          have t1042 := J1035.up t979
          have := f1039.2.1
          have f1043 := Im.i f1039.w.2
          have f1044 := Im.i f1039.w2
          replace f1040 := Im.i f1040
          have z1045 := (rv_c I1006 J1035 (I1006.up h_o0) (k := 24) rfl).trans z1017
          have z1046 := (ra_call I1006 J1035 (I1006.up h_o0) (k := 6) rfl rfl rfl 44).trans z1019
          have z1047 := (ra_call I1006 J1035 (I1006.up h_o0) (k := 7) rfl rfl rfl ((880 + ra M0 o0 6 44).toNat)).trans z1020
          have z1048 := (ra_call I1006 J1035 (I1006.up h_o0) (k := 10) rfl rfl rfl ((880 + ra M0 o0 6 44).toNat)).trans z1021
          have z1049 := (ra_call I1006 J1035 (I1006.up h_o0) (k := 8) rfl rfl rfl ((880 + ra M0 o0 6 44).toNat)).trans z1022
          have z1050 := (ra_call I1006 J1035 (I1006.up h_o0) (k := 11) rfl rfl rfl ((880 + ra M0 o0 6 44).toNat)).trans z1025
          have E1051 : rE M0 M1032 o0 1 3 := E1023.trans f1039 (by decide) (yR.2 5 _ _ rfl 44).1 (by decide) (by decide)
          have K1052 : rK M0 M1032 o0 ((880 + ra M0 o0 6 44).toNat) := K1026.same (sA_c I1006 J1035 (I1006.up h_o0) (by decide +kernel))
          have K1053 : nN M1032 o0 := K1027.same (sA_c I1006 J1035 (I1006.up h_o0) (by decide +kernel)) (sF_c I1006 J1035 (I1006.up h_o0) (by decide +kernel))
          have K1054 : ∀ i : Nat, i ≠ 44 → ra M1032 o0 6 i = ra M0 o0 6 i := (by have e9 := ((sA_c I1006 J1035 (I1006.up h_o0) (by decide +kernel)) : sA [6] _ _ _) 6 rfl; rw [e9]; exact K1028)
          have F1055 : rE M1005 M1032 o0 1 0 := F1029.trans f1039 (by decide) (R1008.2 5 _ _ rfl 44).1 (by decide) (by decide)
          obtain ⟨s1056, e1057⟩ : ∃ s9 : p_S, p_con pb pn pa 4 (p_oc pb pn pa 4) s993 = s9 := ⟨_, rfl⟩
          rw [e1057] at f1041
          have := f1041.w
          clear z1017 z1019 z1020 z1021 z1022 z1025
          have q1058 := J1035.keep t979 (by decide) (K1007 _ 13 6 _ q995)
          have t1059 := J1035.up t996
          have q1060 := J1035.keep t979 (by decide) (K1007 _ 13 8 _ q997)
          have t1061 := J1035.up t998
          have q1062 := J1035.keep t979 (by decide) (K1007 _ 13 11 _ q999)
          have t1063 := J1035.up t_a1000
          have q1064 := J1035.keep t979 (by decide) (K1007 _ 13 5 _ q1001)
          have t1065 := J1035.up t_a1002
          refine mv_goto (tgt := 251) d_TrustDeskModel_readRule_168 (by decide) ?_
          refine mv_aload_n d_TrustDeskModel_readRule_251 rfl rfl ?_
          refine mv_bipush (v := 59) d_TrustDeskModel_readRule_252 (by decide) ?_
          obtain ⟨_, b1072, -⟩ := I1036.1 _ _ t1042
          have : (59 : Int32).toInt = 59 := by decide
          refine mv_callV (kc' := 0) (ks' := 0) (As := [.int 59]) (st9 := [.int 59, .ref o0]) d_TrustDeskModel_readRule_254 lV_TrustDeskModel_291 b1072 rfl (tc_TrustDeskModel_wantSign_x (d := (d + 22)) (x9 := x9) (o0 := o0) (x1 := 59) t1042 R1038 E1051.1 (E1051.s yS (by decide)) (by decide) f1041 I1036.start) rfl (Nat.le_of_ble_eq_true rfl) (Nat.le_of_ble_eq_true rfl) (Nat.le_of_ble_eq_true rfl) (hst := rfl) (fun b1066r M1067 n1068 b1066 => ?_)
          obtain ⟨T1069, J1070, rfl, R1073, f1074, f1075⟩ := b1066
          have I1071 := I1036.call J1070 (tm_sub (by decide)) (Or.inl rfl)
          have t1076 := J1070.up t1042
          have := f1074.2.1
          have f1077 := Im.i f1074.w.2
          have f1078 := Im.i f1074.w2
          have z1079 := (rv_c I1036 J1070 (I1036.up h_o0) (k := 22) rfl)
          have z1080 := (rv_c I1036 J1070 (I1036.up h_o0) (k := 24) rfl).trans z1045
          have z1081 := (ra_call I1036 J1070 (I1036.up h_o0) (k := 5) rfl rfl rfl 44)
          have z1082 := (ra_call I1036 J1070 (I1036.up h_o0) (k := 6) rfl rfl rfl 44).trans z1046
          have z1083 := (ra_call I1036 J1070 (I1036.up h_o0) (k := 7) rfl rfl rfl ((880 + ra M0 o0 6 44).toNat)).trans z1047
          have z1084 := (ra_call I1036 J1070 (I1036.up h_o0) (k := 10) rfl rfl rfl ((880 + ra M0 o0 6 44).toNat)).trans z1048
          have z1085 := (ra_call I1036 J1070 (I1036.up h_o0) (k := 8) rfl rfl rfl ((880 + ra M0 o0 6 44).toNat)).trans z1049
          have z1086 := (ra_call I1036 J1070 (I1036.up h_o0) (k := 11) rfl rfl rfl ((880 + ra M0 o0 6 44).toNat)).trans z1050
          have E1087 : rE M0 M1067 o0 1 4 := E1051.trans f1074 (by decide) (yR.2 5 _ _ rfl 44).1 (by decide) (by decide)
          have K1088 : rK M0 M1067 o0 ((880 + ra M0 o0 6 44).toNat) := K1052.same (sA_c I1036 J1070 (I1036.up h_o0) (by decide +kernel))
          have K1089 : nN M1067 o0 := K1053.same (sA_c I1036 J1070 (I1036.up h_o0) (by decide +kernel)) (sF_c I1036 J1070 (I1036.up h_o0) (by decide +kernel))
          have K1090 : ∀ i : Nat, i ≠ 44 → ra M1067 o0 6 i = ra M0 o0 6 i := (by have e9 := ((sA_c I1036 J1070 (I1036.up h_o0) (by decide +kernel)) : sA [6] _ _ _) 6 rfl; rw [e9]; exact K1054)
          have F1091 : rE M1005 M1067 o0 1 1 := F1055.trans f1074 (by decide) (R1008.2 5 _ _ rfl 44).1 (by decide) (by decide)
          rw [show (59 : Int32).toInt = 59 from by decide] at f1075
          obtain ⟨s1092, e1093⟩ : ∃ s9 : p_S, p_sg pb pn 59 s1056 = s9 := ⟨_, rfl⟩
          rw [e1093] at f1075
          have := f1075.w
          clear z1045 z1046 z1047 z1048 z1049 z1050
          have q1094 := J1070.keep t1042 (by decide) q1058
          have t1095 := J1070.up t1059
          have q1096 := J1070.keep t1042 (by decide) q1060
          have t1097 := J1070.up t1061
          have q1098 := J1070.keep t1042 (by decide) q1062
          have t1099 := J1070.up t1063
          have q1100 := J1070.keep t1042 (by decide) q1064
          have t1101 := J1070.up t1065
          refine mv_aload_n d_TrustDeskModel_readRule_257 rfl rfl ?_
          obtain ⟨a1103, q1102, t_a1103⟩ := tm_atR I1071 t1076 (k := 12) rfl
          refine tr_getK q1102 d_TrustDeskModel_readRule_258 f_TrustDeskModel_41_13 ?_
          refine mv_iload_n d_TrustDeskModel_readRule_261 rfl rfl ?_
          refine mv_aload_n d_TrustDeskModel_readRule_262 rfl rfl ?_
          refine tr_getK (k := 5) q1100 d_TrustDeskModel_readRule_263 f_TrustDeskModel_20_13 ?_
          refine mv_bipush (v := 44) d_TrustDeskModel_readRule_266 (by decide) ?_
          refine tr_ialdR (o := o0) (k := 5) I1071 q1100 t1101 (by decide) d_TrustDeskModel_readRule_268 (by unfold vp_in; decide) (fun v1104 e1105 => ?_)
          have := R1073.a (k := 5) rfl (44 : Int32).toNatClampNeg
          have : v1104.toInt = ra M1067 o0 5 44 := e1105
          have : v1104.toInt = _ := Eq.trans e1105 z1081
          refine tr_iastR (k := 12) I1071 R1073 (I1071.up h_o0) q1102 t_a1103 (by decide) (by decide) (fun lo hi h => by cases h; have := R1073.1 15 _ _ rfl; have := R1073.1 16 _ _ rfl; have := R1073.1 19 _ _ rfl; exact ⟨by show (0 : Int) ≤ v1104.toInt; omega, by show v1104.toInt ≤ (400 : Int); omega⟩) (Or.inl (by decide)) d_TrustDeskModel_readRule_269 (vp_in_iff.mpr (by have := R1073.1 15 _ _ rfl; have := R1073.1 16 _ _ rfl; have := R1073.1 19 _ _ rfl; omega)) (fun M1106 I1107 K1108 R1109 E1110 A1111 V1112 => ?_)
          have z1113 := (V1112 15)
          have z1114 := (V1112 16)
          have z1115 := (V1112 17)
          have z1116 := (V1112 19)
          have z1117 := (V1112 22).trans z1079
          have z1118 := (V1112 24).trans z1080
          have z1119 := (A1111 5 (by decide) rfl 44).trans z1081
          have z1120 := (A1111 6 (by decide) rfl 44).trans z1082
          have z1121 := (A1111 7 (by decide) rfl ((880 + ra M0 o0 6 44).toNat)).trans z1083
          have z1122 := (A1111 10 (by decide) rfl ((880 + ra M0 o0 6 44).toNat)).trans z1084
          have z1123 := (A1111 8 (by decide) rfl ((880 + ra M0 o0 6 44).toNat)).trans z1085
          have z1124 := (A1111 11 (by decide) rfl ((880 + ra M0 o0 6 44).toNat)).trans z1086
          have E1125 : rE M0 M1106 o0 1 4 := E1087.same (fun k _ _ => V1112 k) (fun k h1 h2 => A1111 k (by omega) (by rcases (show k = 4 ∨ k = 5 by omega) with rfl | rfl <;> rfl))
          have h1126 : (880 + ra M0 o0 6 44).toNat = v46.toNatClampNeg := by have := mz_nat9 (i := v46) (by have := R1073.1 15 _ _ rfl; have := R1073.1 16 _ _ rfl; have := R1073.1 19 _ _ rfl; omega); have := R1073.1 15 _ _ rfl; have := R1073.1 16 _ _ rfl; have := R1073.1 19 _ _ rfl; omega
          have z1127 : ra M1106 o0 12 ((880 + ra M0 o0 6 44).toNat) = v1104.toInt := (E1110 _).trans (if_pos h1126)
          have K1128 : rK M0 M1106 o0 ((880 + ra M0 o0 6 44).toNat) := K1088.st A1111 E1110 (by have := mz_nat9 (i := v46) (by have := R1073.1 15 _ _ rfl; have := R1073.1 16 _ _ rfl; have := R1073.1 19 _ _ rfl; omega); have := R1073.1 15 _ _ rfl; have := R1073.1 16 _ _ rfl; have := R1073.1 19 _ _ rfl; omega)
          have K1129 : nN M1106 o0 := K1089.same (sA_a A1111 (by decide +kernel)) (sF_a V1112)
          have K1130 : ∀ i : Nat, i ≠ 44 → ra M1106 o0 6 i = ra M0 o0 6 i := (by have e9 := ((sA_a A1111 (by decide +kernel)) : sA [6] _ _ _) 6 rfl; rw [e9]; exact K1090)
          have F1131 : rE M1005 M1106 o0 1 1 := F1091.same (fun k _ _ => V1112 k) (fun k h1 h2 => A1111 k (by omega) (by rcases (show k = 4 ∨ k = 5 by omega) with rfl | rfl <;> rfl))
          have Z91132 : pO M1106 o0 pb pn pa s1092 := f1075.same (fun k _ _ => V1112 k) (V1112 23) (A1111 13 (by decide) rfl)
          clear z1079 z1080 z1081 z1082 z1083 z1084 z1085 z1086
          exact mv_vret d_TrustDeskModel_readRule_270 rfl ⟨_, I1107, rfl, R1109, (rW.of E1125.1 (E1125.s yS (by decide)) (fun w9 => by have u91 : rv M1067 o0 19 = 0 := (by omega); have := f1077.o u91; have := f1078.o u91; have u92 : rv M1032 o0 19 = 0 := (by omega); have := f1043.o u92; have := f1044.o u92; have := f1040.o u92; have u93 : rv M970 o0 19 = 0 := (by omega); have := f980.o u93; have := f981.o u93; have u94 : rv M40 o0 19 = 0 := (by omega); have := f57.o u94; have := f58.o u94; exact rG.step yG yR E1125 w9 K1128 (by have := yR.2 6 _ _ rfl 44; omega) (by have := R1109.1 15 _ _ rfl; have := R1109.1 16 _ _ rfl; have := R1109.1 19 _ _ rfl; omega) (by have := R1109.1 15 _ _ rfl; have := R1109.1 16 _ _ rfl; have := R1109.1 19 _ _ rfl; omega) (fun _ => rowN.of E1023 F1131 w9 (by decide) (by decide) (yR.2 5 _ _ rfl 44).1 (by have := R1109.1 15 _ _ rfl; have := R1109.1 16 _ _ rfl; have := R1109.1 19 _ _ rfl; omega) (by have := R1109.1 15 _ _ rfl; have := R1109.1 16 _ _ rfl; have := R1109.1 19 _ _ rfl; omega) (by have := R1109.1 15 _ _ rfl; have := R1109.1 16 _ _ rfl; have := R1109.1 19 _ _ rfl; omega)) (fun h9 => (by have := R1109.1 15 _ _ rfl; have := R1109.1 16 _ _ rfl; have := R1109.1 19 _ _ rfl; omega)) (by have := R1109.1 15 _ _ rfl; have := R1109.1 16 _ _ rfl; have := R1109.1 19 _ _ rfl; omega) K1129)), (rO.of E1125 K1128 (by have := yR.2 6 _ _ rfl 44; omega)), ⟨E1125.2.1, fun w9 => by skip; have := E1125.w2 w9; omega⟩, (fun w9 => by have u91 : rv M1067 o0 19 = 0 := (by omega); have := f1077.o u91; have := f1078.o u91; have u92 : rv M1032 o0 19 = 0 := (by omega); have := f1043.o u92; have := f1044.o u92; have := f1040.o u92; have u93 : rv M970 o0 19 = 0 := (by omega); have := f980.o u93; have := f981.o u93; have u94 : rv M40 o0 19 = 0 := (by omega); have := f57.o u94; have := f58.o u94; omega), (by first | (have := pW0 (Im.o d107) (by omega); have := Z9106.wk; have := pW1 (Im.o d144) (by omega); rw [show p_rul pb pn pa pc9 ps = s1092 from (by unfold p_rul; unfold p_bar; (try simp only [e69, e963, e994, e1057, e1093]); ((repeat' (first | (with_reducible rfl) | split)) <;> (first | ((try simp only [e69, e963, e994, e1057, e1093]); done) | ((try simp only [e69, e963, e994, e1057, e1093]); first | exact p_sg_Z _ (by omega) | exact (p_sg_Z _ (by omega)).symm | omega) | (exfalso; omega))))]; exact Z91132) | (exfalso; have := R1109.1 15 _ _ rfl; have := R1109.1 16 _ _ rfl; have := R1109.1 19 _ _ rfl; omega)), (fun w9 => by have u91 : rv M1067 o0 19 = 0 := (by omega); have := f1077.o u91; have := f1078.o u91; have u92 : rv M1032 o0 19 = 0 := (by omega); have := f1043.o u92; have := f1044.o u92; have := f1040.o u92; have u93 : rv M970 o0 19 = 0 := (by omega); have := f980.o u93; have := f981.o u93; have u94 : rv M40 o0 19 = 0 := (by omega); have := f57.o u94; have := f58.o u94; omega), K1130, K1128, (fun w9 => by have u91 : rv M1067 o0 19 = 0 := (by omega); have := f1077.o u91; have := f1078.o u91; have u92 : rv M1032 o0 19 = 0 := (by omega); have := f1043.o u92; have := f1044.o u92; have := f1040.o u92; have u93 : rv M970 o0 19 = 0 := (by omega); have := f980.o u93; have := f981.o u93; have u94 : rv M40 o0 19 = 0 := (by omega); have := f57.o u94; have := f58.o u94; unfold rwA; have := pW0 (Im.o d107) (by omega); have := Z9106.wk; have := pW1 (Im.o d144) (by omega); omega)⟩
      · refine mv_iconst (v := 0) d_TrustDeskModel_readRule_70 (by decide) ?_
        refine mv_goto (tgt := 117) d_TrustDeskModel_readRule_71 (by decide) ?_
        refine tr_iastR (k := 8) I81 R86 (I81.up h_o0) q111 t91 (by decide) (by decide) (fun lo hi h => by cases h; have e9 : (0 : Int32).toInt = 0 := (by decide); exact ⟨by show ((-1) : Int) ≤ (0 : Int32).toInt; omega, by show (0 : Int32).toInt ≤ (720 : Int); omega⟩) (Or.inl (by decide)) d_TrustDeskModel_readRule_117 (vp_in_iff.mpr (by have := R86.1 15 _ _ rfl; have := R86.1 16 _ _ rfl; have := R86.1 19 _ _ rfl; omega)) (fun M1133 I1134 K1135 R1136 E1137 A1138 V1139 => ?_)
        have z1140 := (V1139 15).trans z92
        have z1141 := (V1139 16).trans z93
        have z1142 := (V1139 17).trans z94
        have z1143 := (V1139 19).trans z95
        have z1144 := (V1139 22).trans z96
        have z1145 := (V1139 24).trans z97
        have z1146 := (A1138 5 (by decide) rfl 44).trans z98
        have z1147 := (A1138 6 (by decide) rfl 44).trans z99
        have z1148 := (A1138 7 (by decide) rfl ((880 + ra M0 o0 6 44).toNat)).trans z100
        have z1149 := (A1138 10 (by decide) rfl ((880 + ra M0 o0 6 44).toNat)).trans z101
        have E1150 : rE M0 M1133 o0 0 1 := E102.same (fun k _ _ => V1139 k) (fun k h1 h2 => A1138 k (by omega) (by rcases (show k = 4 ∨ k = 5 by omega) with rfl | rfl <;> rfl))
        have h1151 : (880 + ra M0 o0 6 44).toNat = v46.toNatClampNeg := by have := mz_nat9 (i := v46) (by have := R86.1 15 _ _ rfl; have := R86.1 16 _ _ rfl; have := R86.1 19 _ _ rfl; omega); have := R86.1 15 _ _ rfl; have := R86.1 16 _ _ rfl; have := R86.1 19 _ _ rfl; omega
        have z1152 : ra M1133 o0 8 ((880 + ra M0 o0 6 44).toNat) = 0 := (E1137 _).trans (if_pos h1151)
        have K1153 : rK M0 M1133 o0 ((880 + ra M0 o0 6 44).toNat) := K103.st A1138 E1137 (by have := mz_nat9 (i := v46) (by have := R86.1 15 _ _ rfl; have := R86.1 16 _ _ rfl; have := R86.1 19 _ _ rfl; omega); have := R86.1 15 _ _ rfl; have := R86.1 16 _ _ rfl; have := R86.1 19 _ _ rfl; omega)
        have K1154 : nN M1133 o0 := K104.same (sA_a A1138 (by decide +kernel)) (sF_a V1139)
        have K1155 : ∀ i : Nat, i ≠ 44 → ra M1133 o0 6 i = ra M0 o0 6 i := (by have e9 := ((sA_a A1138 (by decide +kernel)) : sA [6] _ _ _) 6 rfl; rw [e9]; exact K105)
        have Z91156 : pO M1133 o0 pb pn pa s68 := Z9106.same (fun k _ _ => V1139 k) (V1139 23) (A1138 13 (by decide) rfl)
        clear z92 z93 z94 z96 z97 z98 z99 z100 z101
        refine mv_aload_n d_TrustDeskModel_readRule_118 rfl rfl ?_
        refine tr_getK (k := 8) (K1135 _ 13 8 _ q111) d_TrustDeskModel_readRule_119 f_TrustDeskModel_29_13 ?_
        refine mv_iload_n d_TrustDeskModel_readRule_122 rfl rfl ?_
        refine tr_ialdR (o := o0) (k := 8) I1134 (K1135 _ 13 8 _ q111) t91 (by decide) d_TrustDeskModel_readRule_123 (vp_in_iff.mpr (by have := R1136.1 15 _ _ rfl; have := R1136.1 16 _ _ rfl; have := R1136.1 19 _ _ rfl; omega)) (fun v1157 e1158 => ?_)
        have := R1136.a (k := 8) rfl (v46 : Int32).toNatClampNeg
        have h1159 : (880 + ra M0 o0 6 44).toNat = v46.toNatClampNeg := by have := mz_nat9 (i := v46) (by have := R1136.1 15 _ _ rfl; have := R1136.1 16 _ _ rfl; have := R1136.1 19 _ _ rfl; omega); have := R1136.1 15 _ _ rfl; have := R1136.1 16 _ _ rfl; have := R1136.1 19 _ _ rfl; omega
        have z1160 : v1157.toInt = ra M1133 o0 8 ((880 + ra M0 o0 6 44).toNat) := by rw [e1158, h1159]
        have : v1157.toInt = _ := Eq.trans z1160 z1152
        refine mv_iconst (v := (-1)) d_TrustDeskModel_readRule_124 (by decide) ?_
        have := mz_hi v1157
        refine mv_icmp_neZ (tgt := 133) (a := v1157.toInt) (b := (-1)) d_TrustDeskModel_readRule_125 (by decide) rfl (by decide) (fun b1161 => ?_) (fun b1161 => absurd b1161 (by omega))
        refine mv_aload_n d_TrustDeskModel_readRule_133 rfl rfl ?_
        obtain ⟨_, b1162, -⟩ := I1134.1 _ _ t90
        refine mv_callV (kc1 := 0) (ks1 := 0) (kc' := 0) (ks' := 0) (As := []) (st9 := [.ref o0]) d_TrustDeskModel_readRule_134 lV_TrustDeskModel_230 b1162 rfl (mj_enter (by decide) (Nat.le_of_ble_eq_true rfl) ?_) rfl (Nat.le_of_ble_eq_true rfl) (Nat.le_of_ble_eq_true rfl) (Nat.le_of_ble_eq_true rfl) (hst := rfl) (fun _ _ _ h => h)
        refine mv_aload_n d_TrustDeskModel_isWell_0 rfl rfl ?_
        refine tr_getK (k := 19) (K1135 _ 13 19 _ q110) d_TrustDeskModel_isWell_1 f_TrustDeskModel_224_13 ?_
        have := mz_hi v37
        refine mv_if_neZ (tgt := 11) (a := v37.toInt) d_TrustDeskModel_isWell_4 (by decide) rfl (fun b1163 => absurd b1163 (by omega)) (fun b1163 => ?_)
        refine mv_iconst (v := 1) d_TrustDeskModel_isWell_7 (by decide) ?_
        refine mv_goto (tgt := 12) d_TrustDeskModel_isWell_8 (by decide) ?_
        refine mv_iret d_TrustDeskModel_isWell_12 rfl (by decide) ?_
        refine mv_if_eq_f (tgt := 144) d_TrustDeskModel_readRule_137 (by decide) (by decide) ?_
        refine mv_aload_n d_TrustDeskModel_readRule_140 rfl rfl ?_
        obtain ⟨_, b1170, -⟩ := I1134.1 _ _ t90
        refine mv_callV (kc' := 0) (ks' := 0) (As := []) (st9 := [.ref o0]) d_TrustDeskModel_readRule_141 lV_TrustDeskModel_237 b1170 rfl (tc_TrustDeskModel_next_x (d := (d + 23)) (x9 := x9) (o0 := o0) t90 R1136 Z91156.p I1134.start) rfl (Nat.le_of_ble_eq_true rfl) (Nat.le_of_ble_eq_true rfl) (Nat.le_of_ble_eq_true rfl) (hst := rfl) (fun b1164r M1165 n1166 b1164 => ?_)
        obtain ⟨T1167, J1168, rfl, R1171, f1172, f1173, f1174⟩ := b1164
        have I1169 := I1134.call J1168 (tm_sub (by decide)) (Or.inl rfl)
        have t1175 := J1168.up t90
        have z1176 := (rv_c I1134 J1168 (I1134.up h_o0) (k := 19) rfl).trans z1143
        have z1177 := (rv_c I1134 J1168 (I1134.up h_o0) (k := 22) rfl).trans z1144
        have z1178 := (rv_c I1134 J1168 (I1134.up h_o0) (k := 24) rfl).trans z1145
        have z1179 := (ra_call I1134 J1168 (I1134.up h_o0) (k := 5) rfl rfl rfl 44).trans z1146
        have z1180 := (ra_call I1134 J1168 (I1134.up h_o0) (k := 6) rfl rfl rfl 44).trans z1147
        have z1181 := (ra_call I1134 J1168 (I1134.up h_o0) (k := 7) rfl rfl rfl ((880 + ra M0 o0 6 44).toNat)).trans z1148
        have z1182 := (ra_call I1134 J1168 (I1134.up h_o0) (k := 10) rfl rfl rfl ((880 + ra M0 o0 6 44).toNat)).trans z1149
        have z1183 := (ra_call I1134 J1168 (I1134.up h_o0) (k := 8) rfl rfl rfl ((880 + ra M0 o0 6 44).toNat)).trans z1152
        have h1185 : rv M1133 o0 16 + 1 ≤ rv M1133 o0 15 := (by have := f87.o (by omega); have := E1150.1.2.1 (by omega); omega)
        have E1184 : rE M0 M1165 o0 0 2 := E1150.next f1172 f1173 (rv_c I1134 J1168 (I1134.up h_o0) (k := 19) rfl) (rE_ha I1134 J1168 (I1134.up h_o0) (by decide)) (e := 1) h1185 (by decide)
        have K1186 : rK M0 M1165 o0 ((880 + ra M0 o0 6 44).toNat) := K1153.same (sA_c I1134 J1168 (I1134.up h_o0) (by decide +kernel))
        have K1187 : nN M1165 o0 := K1154.same (sA_c I1134 J1168 (I1134.up h_o0) (by decide +kernel)) (sF_c I1134 J1168 (I1134.up h_o0) (by decide +kernel))
        have K1188 : ∀ i : Nat, i ≠ 44 → ra M1165 o0 6 i = ra M0 o0 6 i := (by have e9 := ((sA_c I1134 J1168 (I1134.up h_o0) (by decide +kernel)) : sA [6] _ _ _) 6 rfl; rw [e9]; exact K1155)
        obtain ⟨s1189, e1190⟩ : ∃ s9 : p_S, p_nx s68 = s9 := ⟨_, rfl⟩
        rw [e1190] at f1174
        have := f1174.w
        clear z1144 z1145 z1146 z1147 z1148 z1149 z1152
        have q1191 := J1168.keep t90 (by decide) (K1135 _ 13 6 _ q108)
        have t1192 := J1168.up t109
        have q1193 := J1168.keep t90 (by decide) (K1135 _ 13 19 _ q110)
        have q1194 := J1168.keep t90 (by decide) (K1135 _ 13 8 _ q111)
        have t1195 := J1168.up t91
        refine mv_aload_n d_TrustDeskModel_readRule_144 rfl rfl ?_
        refine mv_ldcSw (id := 25) (tx := "if") d_TrustDeskModel_readRule_145 (List.mem_of_getElem? (i := 15) rfl) ?_
        obtain ⟨_, b1202, -⟩ := I1169.1 _ _ t1175
        refine mv_callV (kc' := 0) (ks' := 0) (As := [.ref 25]) (st9 := [.ref 25, .ref o0]) d_TrustDeskModel_readRule_148 lV_TrustDeskModel_329 b1202 rfl (tc_TrustDeskModel_wantWord_s1_25_x (d := (d + 19)) (x9 := x9) (o0 := o0) t1175 R1171 E1184.1 (E1184.s yS (by decide)) f1174 I1169.start) rfl (Nat.le_of_ble_eq_true rfl) (Nat.le_of_ble_eq_true rfl) (Nat.le_of_ble_eq_true rfl) (hst := rfl) (fun b1196r M1197 n1198 b1196 => ?_)
        obtain ⟨T1199, J1200, rfl, R1203, f1204, f1205⟩ := b1196
        have I1201 := I1169.call J1200 (tm_sub (by decide)) (Or.inl rfl)
        have t1206 := J1200.up t1175
        have := f1204.2.1
        have f1207 := Im.i f1204.w.2
        have f1208 := Im.i f1204.w2
        have z1209 := (rv_c I1169 J1200 (I1169.up h_o0) (k := 22) rfl).trans z1177
        have z1210 := (rv_c I1169 J1200 (I1169.up h_o0) (k := 24) rfl).trans z1178
        have z1211 := (ra_call I1169 J1200 (I1169.up h_o0) (k := 5) rfl rfl rfl 44).trans z1179
        have z1212 := (ra_call I1169 J1200 (I1169.up h_o0) (k := 6) rfl rfl rfl 44).trans z1180
        have z1213 := (ra_call I1169 J1200 (I1169.up h_o0) (k := 7) rfl rfl rfl ((880 + ra M0 o0 6 44).toNat)).trans z1181
        have z1214 := (ra_call I1169 J1200 (I1169.up h_o0) (k := 10) rfl rfl rfl ((880 + ra M0 o0 6 44).toNat)).trans z1182
        have z1215 := (ra_call I1169 J1200 (I1169.up h_o0) (k := 8) rfl rfl rfl ((880 + ra M0 o0 6 44).toNat)).trans z1183
        have E1216 : rE M0 M1197 o0 0 3 := E1184.trans f1204 (by decide) (yR.2 5 _ _ rfl 44).1 (by decide) (by decide)
        have K1217 : rK M0 M1197 o0 ((880 + ra M0 o0 6 44).toNat) := K1186.same (sA_c I1169 J1200 (I1169.up h_o0) (by decide +kernel))
        have K1218 : nN M1197 o0 := K1187.same (sA_c I1169 J1200 (I1169.up h_o0) (by decide +kernel)) (sF_c I1169 J1200 (I1169.up h_o0) (by decide +kernel))
        have K1219 : ∀ i : Nat, i ≠ 44 → ra M1197 o0 6 i = ra M0 o0 6 i := (by have e9 := ((sA_c I1169 J1200 (I1169.up h_o0) (by decide +kernel)) : sA [6] _ _ _) 6 rfl; rw [e9]; exact K1188)
        obtain ⟨s1220, e1221⟩ : ∃ s9 : p_S, p_wd pb pn 28 s1189 = s9 := ⟨_, rfl⟩
        rw [e1221] at f1205
        have := f1205.w
        clear z1177 z1178 z1179 z1180 z1181 z1182 z1183
        have q1222 := J1200.keep t1175 (by decide) q1191
        have t1223 := J1200.up t1192
        have q1224 := J1200.keep t1175 (by decide) q1194
        have t1225 := J1200.up t1195
        refine mv_aload_n d_TrustDeskModel_readRule_151 rfl rfl ?_
        obtain ⟨a1227, q1226, t_a1227⟩ := tm_atR I1201 t1206 (k := 11) rfl
        refine tr_getK q1226 d_TrustDeskModel_readRule_152 f_TrustDeskModel_38_13 ?_
        refine mv_iload_n d_TrustDeskModel_readRule_155 rfl rfl ?_
        refine mv_aload_n d_TrustDeskModel_readRule_156 rfl rfl ?_
        obtain ⟨a1229, q1228, t_a1229⟩ := tm_atR I1201 t1206 (k := 5) rfl
        refine tr_getK q1228 d_TrustDeskModel_readRule_157 f_TrustDeskModel_20_13 ?_
        refine mv_bipush (v := 44) d_TrustDeskModel_readRule_160 (by decide) ?_
        refine tr_ialdR (o := o0) (k := 5) I1201 q1228 t_a1229 (by decide) d_TrustDeskModel_readRule_162 (by unfold vp_in; decide) (fun v1230 e1231 => ?_)
        have := R1203.a (k := 5) rfl (44 : Int32).toNatClampNeg
        have : v1230.toInt = ra M1197 o0 5 44 := e1231
        have : v1230.toInt = _ := Eq.trans e1231 z1211
        refine tr_iastR (k := 11) I1201 R1203 (I1201.up h_o0) q1226 t_a1227 (by decide) (by decide) (fun lo hi h => by cases h; have := R1203.1 15 _ _ rfl; have := R1203.1 16 _ _ rfl; have := R1203.1 19 _ _ rfl; exact ⟨by show (0 : Int) ≤ v1230.toInt; omega, by show v1230.toInt ≤ (400 : Int); omega⟩) (Or.inl (by decide)) d_TrustDeskModel_readRule_163 (vp_in_iff.mpr (by have := R1203.1 15 _ _ rfl; have := R1203.1 16 _ _ rfl; have := R1203.1 19 _ _ rfl; omega)) (fun M1232 I1233 K1234 R1235 E1236 A1237 V1238 => ?_)
        have z1239 := (V1238 15)
        have z1240 := (V1238 16)
        have z1241 := (V1238 17)
        have z1242 := (V1238 19)
        have z1243 := (V1238 22).trans z1209
        have z1244 := (V1238 24).trans z1210
        have z1245 := (A1237 5 (by decide) rfl 44).trans z1211
        have z1246 := (A1237 6 (by decide) rfl 44).trans z1212
        have z1247 := (A1237 7 (by decide) rfl ((880 + ra M0 o0 6 44).toNat)).trans z1213
        have z1248 := (A1237 10 (by decide) rfl ((880 + ra M0 o0 6 44).toNat)).trans z1214
        have z1249 := (A1237 8 (by decide) rfl ((880 + ra M0 o0 6 44).toNat)).trans z1215
        have E1250 : rE M0 M1232 o0 0 3 := E1216.same (fun k _ _ => V1238 k) (fun k h1 h2 => A1237 k (by omega) (by rcases (show k = 4 ∨ k = 5 by omega) with rfl | rfl <;> rfl))
        have h1251 : (880 + ra M0 o0 6 44).toNat = v46.toNatClampNeg := by have := mz_nat9 (i := v46) (by have := R1203.1 15 _ _ rfl; have := R1203.1 16 _ _ rfl; have := R1203.1 19 _ _ rfl; omega); have := R1203.1 15 _ _ rfl; have := R1203.1 16 _ _ rfl; have := R1203.1 19 _ _ rfl; omega
        have z1252 : ra M1232 o0 11 ((880 + ra M0 o0 6 44).toNat) = v1230.toInt := (E1236 _).trans (if_pos h1251)
        have K1253 : rK M0 M1232 o0 ((880 + ra M0 o0 6 44).toNat) := K1217.st A1237 E1236 (by have := mz_nat9 (i := v46) (by have := R1203.1 15 _ _ rfl; have := R1203.1 16 _ _ rfl; have := R1203.1 19 _ _ rfl; omega); have := R1203.1 15 _ _ rfl; have := R1203.1 16 _ _ rfl; have := R1203.1 19 _ _ rfl; omega)
        have K1254 : nN M1232 o0 := K1218.same (sA_a A1237 (by decide +kernel)) (sF_a V1238)
        have K1255 : ∀ i : Nat, i ≠ 44 → ra M1232 o0 6 i = ra M0 o0 6 i := (by have e9 := ((sA_a A1237 (by decide +kernel)) : sA [6] _ _ _) 6 rfl; rw [e9]; exact K1219)
        have F1256 : rE M1232 M1232 o0 0 0 := rE.rf E1250.1
        have : ra M1232 o0 5 44 = v1230.toInt := by omega
        have Z91257 : pO M1232 o0 pb pn pa s1220 := f1205.same (fun k _ _ => V1238 k) (V1238 23) (A1237 13 (by decide) rfl)
        clear z1209 z1210 z1211 z1212 z1213 z1214 z1215
        refine mv_aload_n d_TrustDeskModel_readRule_164 rfl rfl ?_
        obtain ⟨_, b1264, -⟩ := I1233.1 _ _ t1206
        refine mv_callV (kc' := 0) (ks' := 0) (As := []) (st9 := [.ref o0]) d_TrustDeskModel_readRule_165 lV_TrustDeskModel_302 b1264 rfl (tc_TrustDeskModel_cond_q5_x (d := d) (x9 := x9) (o0 := o0) t1206 R1235 E1250.1 (E1250.s yS (by decide)) (Classical.byCases (fun w9 : rv M1232 o0 19 = 0 => by have u91 : rv M1197 o0 19 = 0 := (by omega); have := f1207.o u91; have := f1208.o u91; have u92 : rv M40 o0 19 = 0 := (by omega); have := f57.o u92; have := f58.o u92; omega) (fun w9 : ¬ rv M1232 o0 19 = 0 => by omega)) Z91257 I1233.start) rfl (Nat.le_of_ble_eq_true rfl) (Nat.le_of_ble_eq_true rfl) (Nat.le_of_ble_eq_true rfl) (hst := rfl) (fun b1258r M1259 n1260 b1258 => ?_)
        obtain ⟨T1261, J1262, rfl, R1265, f1266, f1267, f1268⟩ := b1258
        have I1263 := I1233.call J1262 (tm_sub (by decide)) (Or.inl rfl)
        have t1269 := J1262.up t1206
        have := f1266.2.1
        have f1270 := Im.i f1266.w.2
        have f1271 := Im.i f1266.w2
        replace f1267 := Im.i f1267
        have z1272 := (rv_c I1233 J1262 (I1233.up h_o0) (k := 24) rfl).trans z1244
        have z1273 := (ra_call I1233 J1262 (I1233.up h_o0) (k := 6) rfl rfl rfl 44).trans z1246
        have z1274 := (ra_call I1233 J1262 (I1233.up h_o0) (k := 7) rfl rfl rfl ((880 + ra M0 o0 6 44).toNat)).trans z1247
        have z1275 := (ra_call I1233 J1262 (I1233.up h_o0) (k := 10) rfl rfl rfl ((880 + ra M0 o0 6 44).toNat)).trans z1248
        have z1276 := (ra_call I1233 J1262 (I1233.up h_o0) (k := 8) rfl rfl rfl ((880 + ra M0 o0 6 44).toNat)).trans z1249
        have z1277 := (ra_call I1233 J1262 (I1233.up h_o0) (k := 11) rfl rfl rfl ((880 + ra M0 o0 6 44).toNat)).trans z1252
        have E1278 : rE M0 M1259 o0 1 3 := E1250.trans f1266 (by decide) (yR.2 5 _ _ rfl 44).1 (by decide) (by decide)
        have K1279 : rK M0 M1259 o0 ((880 + ra M0 o0 6 44).toNat) := K1253.same (sA_c I1233 J1262 (I1233.up h_o0) (by decide +kernel))
        have K1280 : nN M1259 o0 := K1254.same (sA_c I1233 J1262 (I1233.up h_o0) (by decide +kernel)) (sF_c I1233 J1262 (I1233.up h_o0) (by decide +kernel))
        have K1281 : ∀ i : Nat, i ≠ 44 → ra M1259 o0 6 i = ra M0 o0 6 i := (by have e9 := ((sA_c I1233 J1262 (I1233.up h_o0) (by decide +kernel)) : sA [6] _ _ _) 6 rfl; rw [e9]; exact K1255)
        have F1282 : rE M1232 M1259 o0 1 0 := F1256.trans f1266 (by decide) (R1235.2 5 _ _ rfl 44).1 (by decide) (by decide)
        obtain ⟨s1283, e1284⟩ : ∃ s9 : p_S, p_con pb pn pa 4 (p_oc pb pn pa 4) s1220 = s9 := ⟨_, rfl⟩
        rw [e1284] at f1268
        have := f1268.w
        clear z1244 z1246 z1247 z1248 z1249 z1252
        have q1285 := J1262.keep t1206 (by decide) (K1234 _ 13 6 _ q1222)
        have t1286 := J1262.up t1223
        have q1287 := J1262.keep t1206 (by decide) (K1234 _ 13 8 _ q1224)
        have t1288 := J1262.up t1225
        have q1289 := J1262.keep t1206 (by decide) (K1234 _ 13 11 _ q1226)
        have t1290 := J1262.up t_a1227
        have q1291 := J1262.keep t1206 (by decide) (K1234 _ 13 5 _ q1228)
        have t1292 := J1262.up t_a1229
        refine mv_goto (tgt := 251) d_TrustDeskModel_readRule_168 (by decide) ?_
        refine mv_aload_n d_TrustDeskModel_readRule_251 rfl rfl ?_
        refine mv_bipush (v := 59) d_TrustDeskModel_readRule_252 (by decide) ?_
        obtain ⟨_, b1299, -⟩ := I1263.1 _ _ t1269
        have : (59 : Int32).toInt = 59 := by decide
        refine mv_callV (kc' := 0) (ks' := 0) (As := [.int 59]) (st9 := [.int 59, .ref o0]) d_TrustDeskModel_readRule_254 lV_TrustDeskModel_291 b1299 rfl (tc_TrustDeskModel_wantSign_x (d := (d + 22)) (x9 := x9) (o0 := o0) (x1 := 59) t1269 R1265 E1278.1 (E1278.s yS (by decide)) (by decide) f1268 I1263.start) rfl (Nat.le_of_ble_eq_true rfl) (Nat.le_of_ble_eq_true rfl) (Nat.le_of_ble_eq_true rfl) (hst := rfl) (fun b1293r M1294 n1295 b1293 => ?_)
        obtain ⟨T1296, J1297, rfl, R1300, f1301, f1302⟩ := b1293
        have I1298 := I1263.call J1297 (tm_sub (by decide)) (Or.inl rfl)
        have t1303 := J1297.up t1269
        have := f1301.2.1
        have f1304 := Im.i f1301.w.2
        have f1305 := Im.i f1301.w2
        have z1306 := (rv_c I1263 J1297 (I1263.up h_o0) (k := 22) rfl)
        have z1307 := (rv_c I1263 J1297 (I1263.up h_o0) (k := 24) rfl).trans z1272
        have z1308 := (ra_call I1263 J1297 (I1263.up h_o0) (k := 5) rfl rfl rfl 44)
        have z1309 := (ra_call I1263 J1297 (I1263.up h_o0) (k := 6) rfl rfl rfl 44).trans z1273
        have z1310 := (ra_call I1263 J1297 (I1263.up h_o0) (k := 7) rfl rfl rfl ((880 + ra M0 o0 6 44).toNat)).trans z1274
        have z1311 := (ra_call I1263 J1297 (I1263.up h_o0) (k := 10) rfl rfl rfl ((880 + ra M0 o0 6 44).toNat)).trans z1275
        have z1312 := (ra_call I1263 J1297 (I1263.up h_o0) (k := 8) rfl rfl rfl ((880 + ra M0 o0 6 44).toNat)).trans z1276
        have z1313 := (ra_call I1263 J1297 (I1263.up h_o0) (k := 11) rfl rfl rfl ((880 + ra M0 o0 6 44).toNat)).trans z1277
        have E1314 : rE M0 M1294 o0 1 4 := E1278.trans f1301 (by decide) (yR.2 5 _ _ rfl 44).1 (by decide) (by decide)
        have K1315 : rK M0 M1294 o0 ((880 + ra M0 o0 6 44).toNat) := K1279.same (sA_c I1263 J1297 (I1263.up h_o0) (by decide +kernel))
        have K1316 : nN M1294 o0 := K1280.same (sA_c I1263 J1297 (I1263.up h_o0) (by decide +kernel)) (sF_c I1263 J1297 (I1263.up h_o0) (by decide +kernel))
        have K1317 : ∀ i : Nat, i ≠ 44 → ra M1294 o0 6 i = ra M0 o0 6 i := (by have e9 := ((sA_c I1263 J1297 (I1263.up h_o0) (by decide +kernel)) : sA [6] _ _ _) 6 rfl; rw [e9]; exact K1281)
        have F1318 : rE M1232 M1294 o0 1 1 := F1282.trans f1301 (by decide) (R1235.2 5 _ _ rfl 44).1 (by decide) (by decide)
        rw [show (59 : Int32).toInt = 59 from by decide] at f1302
        obtain ⟨s1319, e1320⟩ : ∃ s9 : p_S, p_sg pb pn 59 s1283 = s9 := ⟨_, rfl⟩
        rw [e1320] at f1302
        have := f1302.w
        clear z1272 z1273 z1274 z1275 z1276 z1277
        have q1321 := J1297.keep t1269 (by decide) q1285
        have t1322 := J1297.up t1286
        have q1323 := J1297.keep t1269 (by decide) q1287
        have t1324 := J1297.up t1288
        have q1325 := J1297.keep t1269 (by decide) q1289
        have t1326 := J1297.up t1290
        have q1327 := J1297.keep t1269 (by decide) q1291
        have t1328 := J1297.up t1292
        refine mv_aload_n d_TrustDeskModel_readRule_257 rfl rfl ?_
        obtain ⟨a1330, q1329, t_a1330⟩ := tm_atR I1298 t1303 (k := 12) rfl
        refine tr_getK q1329 d_TrustDeskModel_readRule_258 f_TrustDeskModel_41_13 ?_
        refine mv_iload_n d_TrustDeskModel_readRule_261 rfl rfl ?_
        refine mv_aload_n d_TrustDeskModel_readRule_262 rfl rfl ?_
        refine tr_getK (k := 5) q1327 d_TrustDeskModel_readRule_263 f_TrustDeskModel_20_13 ?_
        refine mv_bipush (v := 44) d_TrustDeskModel_readRule_266 (by decide) ?_
        refine tr_ialdR (o := o0) (k := 5) I1298 q1327 t1328 (by decide) d_TrustDeskModel_readRule_268 (by unfold vp_in; decide) (fun v1331 e1332 => ?_)
        have := R1300.a (k := 5) rfl (44 : Int32).toNatClampNeg
        have : v1331.toInt = ra M1294 o0 5 44 := e1332
        have : v1331.toInt = _ := Eq.trans e1332 z1308
        refine tr_iastR (k := 12) I1298 R1300 (I1298.up h_o0) q1329 t_a1330 (by decide) (by decide) (fun lo hi h => by cases h; have := R1300.1 15 _ _ rfl; have := R1300.1 16 _ _ rfl; have := R1300.1 19 _ _ rfl; exact ⟨by show (0 : Int) ≤ v1331.toInt; omega, by show v1331.toInt ≤ (400 : Int); omega⟩) (Or.inl (by decide)) d_TrustDeskModel_readRule_269 (vp_in_iff.mpr (by have := R1300.1 15 _ _ rfl; have := R1300.1 16 _ _ rfl; have := R1300.1 19 _ _ rfl; omega)) (fun M1333 I1334 K1335 R1336 E1337 A1338 V1339 => ?_)
        have z1340 := (V1339 15)
        have z1341 := (V1339 16)
        have z1342 := (V1339 17)
        have z1343 := (V1339 19)
        have z1344 := (V1339 22).trans z1306
        have z1345 := (V1339 24).trans z1307
        have z1346 := (A1338 5 (by decide) rfl 44).trans z1308
        have z1347 := (A1338 6 (by decide) rfl 44).trans z1309
        have z1348 := (A1338 7 (by decide) rfl ((880 + ra M0 o0 6 44).toNat)).trans z1310
        have z1349 := (A1338 10 (by decide) rfl ((880 + ra M0 o0 6 44).toNat)).trans z1311
        have z1350 := (A1338 8 (by decide) rfl ((880 + ra M0 o0 6 44).toNat)).trans z1312
        have z1351 := (A1338 11 (by decide) rfl ((880 + ra M0 o0 6 44).toNat)).trans z1313
        have E1352 : rE M0 M1333 o0 1 4 := E1314.same (fun k _ _ => V1339 k) (fun k h1 h2 => A1338 k (by omega) (by rcases (show k = 4 ∨ k = 5 by omega) with rfl | rfl <;> rfl))
        have h1353 : (880 + ra M0 o0 6 44).toNat = v46.toNatClampNeg := by have := mz_nat9 (i := v46) (by have := R1300.1 15 _ _ rfl; have := R1300.1 16 _ _ rfl; have := R1300.1 19 _ _ rfl; omega); have := R1300.1 15 _ _ rfl; have := R1300.1 16 _ _ rfl; have := R1300.1 19 _ _ rfl; omega
        have z1354 : ra M1333 o0 12 ((880 + ra M0 o0 6 44).toNat) = v1331.toInt := (E1337 _).trans (if_pos h1353)
        have K1355 : rK M0 M1333 o0 ((880 + ra M0 o0 6 44).toNat) := K1315.st A1338 E1337 (by have := mz_nat9 (i := v46) (by have := R1300.1 15 _ _ rfl; have := R1300.1 16 _ _ rfl; have := R1300.1 19 _ _ rfl; omega); have := R1300.1 15 _ _ rfl; have := R1300.1 16 _ _ rfl; have := R1300.1 19 _ _ rfl; omega)
        have K1356 : nN M1333 o0 := K1316.same (sA_a A1338 (by decide +kernel)) (sF_a V1339)
        have K1357 : ∀ i : Nat, i ≠ 44 → ra M1333 o0 6 i = ra M0 o0 6 i := (by have e9 := ((sA_a A1338 (by decide +kernel)) : sA [6] _ _ _) 6 rfl; rw [e9]; exact K1317)
        have F1358 : rE M1232 M1333 o0 1 1 := F1318.same (fun k _ _ => V1339 k) (fun k h1 h2 => A1338 k (by omega) (by rcases (show k = 4 ∨ k = 5 by omega) with rfl | rfl <;> rfl))
        have Z91359 : pO M1333 o0 pb pn pa s1319 := f1302.same (fun k _ _ => V1339 k) (V1339 23) (A1338 13 (by decide) rfl)
        clear z1306 z1307 z1308 z1309 z1310 z1311 z1312 z1313
        exact mv_vret d_TrustDeskModel_readRule_270 rfl ⟨_, I1334, rfl, R1336, (rW.of E1352.1 (E1352.s yS (by decide)) (fun w9 => by have u91 : rv M1294 o0 19 = 0 := (by omega); have := f1304.o u91; have := f1305.o u91; have u92 : rv M1259 o0 19 = 0 := (by omega); have := f1270.o u92; have := f1271.o u92; have := f1267.o u92; have u93 : rv M1197 o0 19 = 0 := (by omega); have := f1207.o u93; have := f1208.o u93; have u94 : rv M40 o0 19 = 0 := (by omega); have := f57.o u94; have := f58.o u94; exact rG.step yG yR E1352 w9 K1355 (by have := yR.2 6 _ _ rfl 44; omega) (by have := R1336.1 15 _ _ rfl; have := R1336.1 16 _ _ rfl; have := R1336.1 19 _ _ rfl; omega) (by have := R1336.1 15 _ _ rfl; have := R1336.1 16 _ _ rfl; have := R1336.1 19 _ _ rfl; omega) (fun _ => rowN.of E1250 F1358 w9 (by decide) (by decide) (yR.2 5 _ _ rfl 44).1 (by have := R1336.1 15 _ _ rfl; have := R1336.1 16 _ _ rfl; have := R1336.1 19 _ _ rfl; omega) (by have := R1336.1 15 _ _ rfl; have := R1336.1 16 _ _ rfl; have := R1336.1 19 _ _ rfl; omega) (by have := R1336.1 15 _ _ rfl; have := R1336.1 16 _ _ rfl; have := R1336.1 19 _ _ rfl; omega)) (fun h9 => (by have := R1336.1 15 _ _ rfl; have := R1336.1 16 _ _ rfl; have := R1336.1 19 _ _ rfl; omega)) (by have := R1336.1 15 _ _ rfl; have := R1336.1 16 _ _ rfl; have := R1336.1 19 _ _ rfl; omega) K1356)), (rO.of E1352 K1355 (by have := yR.2 6 _ _ rfl 44; omega)), ⟨E1352.2.1, fun w9 => by skip; have := E1352.w2 w9; omega⟩, (fun w9 => by have u91 : rv M1294 o0 19 = 0 := (by omega); have := f1304.o u91; have := f1305.o u91; have u92 : rv M1259 o0 19 = 0 := (by omega); have := f1270.o u92; have := f1271.o u92; have := f1267.o u92; have u93 : rv M1197 o0 19 = 0 := (by omega); have := f1207.o u93; have := f1208.o u93; have u94 : rv M40 o0 19 = 0 := (by omega); have := f57.o u94; have := f58.o u94; omega), (by first | (have := pW1 (Im.o d107) (by omega); have := Z9106.wk; rw [show p_rul pb pn pa pc9 ps = s1319 from (by unfold p_rul; unfold p_bar; (try simp only [e69, e1190, e1221, e1284, e1320]); ((repeat' (first | (with_reducible rfl) | split)) <;> (first | ((try simp only [e69, e1190, e1221, e1284, e1320]); done) | ((try simp only [e69, e1190, e1221, e1284, e1320]); first | exact p_sg_Z _ (by omega) | exact (p_sg_Z _ (by omega)).symm | omega) | (exfalso; omega))))]; exact Z91359) | (exfalso; have := R1336.1 15 _ _ rfl; have := R1336.1 16 _ _ rfl; have := R1336.1 19 _ _ rfl; omega)), (fun w9 => by have u91 : rv M1294 o0 19 = 0 := (by omega); have := f1304.o u91; have := f1305.o u91; have u92 : rv M1259 o0 19 = 0 := (by omega); have := f1270.o u92; have := f1271.o u92; have := f1267.o u92; have u93 : rv M1197 o0 19 = 0 := (by omega); have := f1207.o u93; have := f1208.o u93; have u94 : rv M40 o0 19 = 0 := (by omega); have := f57.o u94; have := f58.o u94; omega), K1357, K1355, (fun w9 => by have u91 : rv M1294 o0 19 = 0 := (by omega); have := f1304.o u91; have := f1305.o u91; have u92 : rv M1259 o0 19 = 0 := (by omega); have := f1270.o u92; have := f1271.o u92; have := f1267.o u92; have u93 : rv M1197 o0 19 = 0 := (by omega); have := f1207.o u93; have := f1208.o u93; have u94 : rv M40 o0 19 = 0 := (by omega); have := f57.o u94; have := f58.o u94; unfold rwA; have := pW1 (Im.o d107) (by omega); have := Z9106.wk; omega)⟩
  · refine mv_aload_n d_TrustDeskModel_readRule_30 rfl rfl ?_
    refine mv_iconst (v := 4) d_TrustDeskModel_readRule_31 (by decide) ?_
    obtain ⟨_, b1366, -⟩ := I9.1 _ _ t15
    have : (4 : Int32).toInt = 4 := by decide
    refine mv_callV (kc' := 0) (ks' := 0) (As := [.int 4]) (st9 := [.int 4, .ref o0]) d_TrustDeskModel_readRule_32 lV_TrustDeskModel_240 b1366 rfl (tc_TrustDeskModel_fails_x (d := (d + 24)) (x9 := x9) (o0 := o0) (x1 := 4) t15 R12 (by decide) Z928 I9.start) rfl (Nat.le_of_ble_eq_true rfl) (Nat.le_of_ble_eq_true rfl) (Nat.le_of_ble_eq_true rfl) (hst := rfl) (fun b1360r M1361 n1362 b1360 => ?_)
    obtain ⟨T1363, J1364, rfl, R1367, f1368, f1369⟩ := b1360
    have I1365 := I9.call J1364 (tm_sub (by decide)) (Or.inl rfl)
    have t1370 := J1364.up t15
    have z1371 := (rv_c I9 J1364 (I9.up h_o0) (k := 15) rfl).trans z16
    have z1372 := (rv_c I9 J1364 (I9.up h_o0) (k := 16) rfl).trans z17
    have z1373 := (rv_c I9 J1364 (I9.up h_o0) (k := 17) rfl).trans z18
    have z1374 := (rv_c I9 J1364 (I9.up h_o0) (k := 22) rfl).trans z20
    have z1375 := (rv_c I9 J1364 (I9.up h_o0) (k := 24) rfl).trans z21
    have z1376 := (ra_call I9 J1364 (I9.up h_o0) (k := 5) rfl rfl rfl 44).trans z22
    have z1377 := (ra_call I9 J1364 (I9.up h_o0) (k := 6) rfl rfl rfl 44).trans z23
    have E1378 : rE M0 M1361 o0 0 0 := E24.fails (rE_hv I9 J1364 (I9.up h_o0) 15 18 (by decide)) (rE_ha I9 J1364 (I9.up h_o0) (by decide)) f1368 0 0
    have K1379 : rK M0 M1361 o0 ((880 + ra M0 o0 6 44).toNat) := K25.same (sA_c I9 J1364 (I9.up h_o0) (by decide +kernel))
    have K1380 : nN M1361 o0 := K26.same (sA_c I9 J1364 (I9.up h_o0) (by decide +kernel)) (sF_c I9 J1364 (I9.up h_o0) (by decide +kernel))
    have K1381 : ∀ i : Nat, i ≠ 44 → ra M1361 o0 6 i = ra M0 o0 6 i := (by have e9 := ((sA_c I9 J1364 (I9.up h_o0) (by decide +kernel)) : sA [6] _ _ _) 6 rfl; rw [e9]; exact K27)
    rw [show (4 : Int32).toInt = 4 from by decide] at f1369
    obtain ⟨s1382, e1383⟩ : ∃ s9 : p_S, p_fl pb pn 4 ps = s9 := ⟨_, rfl⟩
    rw [e1383] at f1369
    have := f1369.w
    clear z16 z17 z18 z20 z21 z22 z23
    have q1384 := J1364.keep t15 (by decide) q30
    have t1385 := J1364.up t_a31
    refine mv_aload_n d_TrustDeskModel_readRule_35 rfl rfl ?_
    obtain ⟨_, b1386, -⟩ := I1365.1 _ _ t1370
    refine mv_callV (kc1 := 0) (ks1 := 0) (kc' := 0) (ks' := 0) (As := []) (st9 := [.ref o0]) d_TrustDeskModel_readRule_36 lV_TrustDeskModel_230 b1386 rfl (mj_enter (by decide) (Nat.le_of_ble_eq_true rfl) ?_) rfl (Nat.le_of_ble_eq_true rfl) (Nat.le_of_ble_eq_true rfl) (Nat.le_of_ble_eq_true rfl) (hst := rfl) (fun _ _ _ h => h)
    refine mv_aload_n d_TrustDeskModel_isWell_0 rfl rfl ?_
    obtain ⟨v1388, q1387⟩ := tm_atI I1365 t1370 (k := 19) rfl
    refine tr_getK q1387 d_TrustDeskModel_isWell_1 f_TrustDeskModel_224_13 ?_
    have := R1367.f (k := 19) q1387 rfl
    have := tm_rv q1387
    refine mv_if_neZ (tgt := 11) (a := v1388.toInt) d_TrustDeskModel_isWell_4 (by decide) rfl (fun b1389 => ?_) (fun b1389 => ?_)
    · refine mv_iconst (v := 0) d_TrustDeskModel_isWell_11 (by decide) ?_
      refine mv_iret d_TrustDeskModel_isWell_12 rfl (by decide) ?_
      refine mv_if_ne_f (tgt := 43) d_TrustDeskModel_readRule_39 (by decide) (by decide) ?_
      exact mv_vret d_TrustDeskModel_readRule_42 rfl ⟨_, I1365, rfl, R1367, (rW.of E1378.1 (fun h9 => by exfalso; skip; have := R1367.1 15 _ _ rfl; have := R1367.1 16 _ _ rfl; have := R1367.1 19 _ _ rfl; omega) (fun h9 => by exfalso; skip; have := R1367.1 15 _ _ rfl; have := R1367.1 16 _ _ rfl; have := R1367.1 19 _ _ rfl; omega)), (rO.of E1378 K1379 (by have := yR.2 6 _ _ rfl 44; omega)), ⟨E1378.2.1, fun w9 => by skip; have := E1378.w2 w9; omega⟩, (fun w9 => by skip; omega), (by first | (rw [show p_rul pb pn pa pc9 ps = s1382 from (by unfold p_rul; unfold p_bar; (try simp only [e1383]); ((repeat' (first | (with_reducible rfl) | split)) <;> (first | ((try simp only [e1383]); done) | ((try simp only [e1383]); first | exact p_sg_Z _ (by omega) | exact (p_sg_Z _ (by omega)).symm | omega) | (exfalso; omega))))]; exact f1369) | (exfalso; have := R1367.1 15 _ _ rfl; have := R1367.1 16 _ _ rfl; have := R1367.1 19 _ _ rfl; omega)), (fun w9 => by skip; omega), K1381, K1379, (fun h9 => by exfalso; skip; have := R1367.1 15 _ _ rfl; have := R1367.1 16 _ _ rfl; have := R1367.1 19 _ _ rfl; omega)⟩
    · exfalso
      have := R1367.1 15 _ _ rfl; have := R1367.1 16 _ _ rfl; have := R1367.1 19 _ _ rfl; omega
def w_TrustDeskModel_readRule_a : List Nat := [1315, 1316, 1317, 1318, 1319, 1320, 1322, 20004, 20005, 20006, 20007, 20008, 20010, 20011, 20012]
theorem tc_TrustDeskModel_readRule_a {g : mj_G} {l : Launch} {d : Nat} {T0 : tm_H} {M0 : mj_M} {n0 x9 : Nat} {o0 : Nat} (h_o0 : T0 o0 = some (0, 13, 0)) (yR : rI M0 o0) (yWW : rW M0 o0) (yw : rv M0 o0 19 = 0) (yo : rv M0 o0 17 ≠ 0) (yq : rv M0 o0 22 = 0) {pb : Nat → Int} {pn : Nat} {pa : Int} {ps : p_S} (yO : pO M0 o0 pb pn pa ps) {pc9 : Nat} (yk : ra M0 o0 6 44 = (pc9 : Int)) (I0 : tm_I tm_FT (tm_in w_TrustDeskModel_readRule_a) x9 T0 M0 n0 T0 M0 n0) : mj_Met g l kY_TrustDeskModel_readRule (d + 25) [.ref o0] M0 n0 0 0 (tm_Q tm_FT (tm_in w_TrustDeskModel_readRule_a) x9 T0 M0 n0 (fun r _ M => r = none ∧ rI M o0 ∧ (rW M o0) ∧ (rO M0 M o0) ∧ (rv M0 o0 16 ≤ rv M o0 16 ∧ (rv M o0 19 = 0 → rv M0 o0 16 < rv M o0 16)) ∧ (rv M o0 19 = 0 → rv M o0 22 = 0) ∧ (pO M o0 pb pn pa (p_rul pb pn pa pc9 ps)) ∧ (rv M o0 19 = 0 → ra M o0 6 44 = (pc9 : Int) + 1) ∧ (∀ i : Nat, i ≠ 44 → ra M o0 6 i = ra M0 o0 6 i) ∧ (rK M0 M o0 (880 + ra M0 o0 6 44).toNat) ∧ (rv M o0 19 = 0 → rwA M o0 (880 + ra M0 o0 6 44).toNat pb pn ps.2.2))) := by
  by_cases yB : p_wi pb pn ps.2.2 = 23
  · exact tc_TrustDeskModel_readRule_aB (d := d) h_o0 yR yWW yw yo yq yO yk yB I0
  · exact tc_TrustDeskModel_readRule_aA (d := d + 19) h_o0 yR yWW yw yo yq yO yk yB I0
