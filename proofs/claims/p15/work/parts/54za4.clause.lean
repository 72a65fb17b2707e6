def w_TrustDeskModel_readClause_a : List Nat := [1315, 1316, 1317, 1318, 1319, 1320, 1322, 1324, 20004, 20005, 20006, 20007, 20008, 20009, 20010, 20011, 20012, 20025, 20026]
set_option maxHeartbeats 100000000 in theorem tc_TrustDeskModel_readClause_a {g : mj_G} {l : Launch} {d : Nat} {T0 : tm_H} {M0 : mj_M} {n0 x9 : Nat} {o0 : Nat} (h_o0 : T0 o0 = some (0, 13, 0)) (yR : rI M0 o0) (yWW : rW M0 o0) (yw : rv M0 o0 19 = 0) (yo : rv M0 o0 17 ≠ 0) (yq : rv M0 o0 22 = 0) (ym : ra M0 o0 6 44 ≤ 12) {pb : Nat → Int} {pn : Nat} {pa : Int} {ps : p_S} (yO : pO M0 o0 pb pn pa ps) {pc9 : Nat} {pN9 : List (Nat × Nat)} (yk : ra M0 o0 6 44 = (pc9 : Int)) (yM : pN M0 o0 pn pN9) (I0 : tm_I tm_FT (tm_in w_TrustDeskModel_readClause_a) x9 T0 M0 n0 T0 M0 n0) : mj_Met g l kY_TrustDeskModel_readClause (d + 26) [.ref o0] M0 n0 0 0 (tm_Q tm_FT (tm_in w_TrustDeskModel_readClause_a) x9 T0 M0 n0 (fun r _ M => r = none ∧ rI M o0 ∧ (rW M o0) ∧ (rO M0 M o0) ∧ (rv M0 o0 16 ≤ rv M o0 16 ∧ (rv M o0 19 = 0 → rv M0 o0 16 < rv M o0 16)) ∧ (rv M o0 19 = 0 → rv M o0 22 = 0) ∧ (rwE M0 o0 → rv M o0 19 = 0 → ra M o0 7 (880 + ra M0 o0 6 44).toNat = 8 ∧ ra M o0 6 44 = ra M0 o0 6 44 + 1) ∧ (ra M o0 6 44 ≤ 12) ∧ (pO M o0 pb pn pa ((p_cl pb pn pa (pc9, pN9, ps)).2)) ∧ (rv M o0 19 = 0 → ra M o0 6 44 = (pc9 : Int) + 1) ∧ (rv M o0 19 = 0 → pN M o0 pn (p_cl pb pn pa (pc9, pN9, ps)).1) ∧ (∀ i : Nat, i ≠ 44 → ra M o0 6 i = ra M0 o0 6 i))) := by
  refine mj_enter (by decide) (Nat.le_of_ble_eq_true rfl) ?_
  have yT := yWW.1
  have yS : rv M0 o0 19 = 0 → ra M0 o0 5 44 ≤ rv M0 o0 16 := fun h9 => (yWW.2 h9).1
  have yG := (yWW.2 yw).2
  have yN := yG.2.2
  have := yR.2 6 _ _ rfl 44
  have yE0 := rE.rf yT
  have K1 : rK M0 M0 o0 ((880 + ra M0 o0 6 44).toNat) := rK.rf
  have K2 : nN M0 o0 := yN
  have K3 : ∀ i : Nat, i ≠ 44 → ra M0 o0 6 i = ra M0 o0 6 i := (fun _ _ => rfl)
  have := yO.w
  have := yM.1
  refine mv_aload_n d_TrustDeskModel_readClause_0 rfl rfl ?_
  refine mv_ldcSw (id := 42) (tx := "end") d_TrustDeskModel_readClause_1 (List.mem_of_getElem? (i := 32) rfl) ?_
  obtain ⟨_, b10, -⟩ := I0.1 _ _ h_o0
  refine mv_callV (kc' := 0) (ks' := 0) (As := [.ref 42]) (st9 := [.ref 42, .ref o0]) d_TrustDeskModel_readClause_4 lV_TrustDeskModel_244 b10 rfl (tc_TrustDeskModel_isWord_s1_42_x (d := (d + 21)) (x9 := x9) (o0 := o0) h_o0 yR I0.start) rfl (Nat.le_of_ble_eq_true rfl) (Nat.le_of_ble_eq_true rfl) (Nat.le_of_ble_eq_true rfl) (hst := rfl) (fun b4r M5 n6 b4 => ?_)
  obtain ⟨T7, J8, v11, rfl, b12, b13, R14, f15, f16, f17⟩ := b4
  have I9 := I0.call J8 (tm_sub (by decide)) (Or.inl rfl)
  have t18 := J8.up h_o0
  replace f15 := Im.i f15
  replace f16 := Im.i f16
  replace f17 := Im.i f17
  have z19 := (rv_c I0 J8 (I0.up h_o0) (k := 15) rfl)
  have z20 := (rv_c I0 J8 (I0.up h_o0) (k := 16) rfl)
  have z21 := (rv_c I0 J8 (I0.up h_o0) (k := 17) rfl)
  have z22 := (rv_c I0 J8 (I0.up h_o0) (k := 19) rfl)
  have z23 := (rv_c I0 J8 (I0.up h_o0) (k := 22) rfl)
  have z24 := (rv_c I0 J8 (I0.up h_o0) (k := 24) rfl)
  have z25 := (ra_call I0 J8 (I0.up h_o0) (k := 5) rfl rfl rfl 44)
  have z26 := (ra_call I0 J8 (I0.up h_o0) (k := 6) rfl rfl rfl 44)
  have E27 : rE M0 M5 o0 0 0 := yE0.same (rE_hv I0 J8 (I0.up h_o0) 15 19 (by decide)) (rE_ha I0 J8 (I0.up h_o0) (by decide))
  have K28 : rK M0 M5 o0 ((880 + ra M0 o0 6 44).toNat) := K1.same (sA_c I0 J8 (I0.up h_o0) (by decide +kernel))
  have K29 : nN M5 o0 := K2.same (sA_c I0 J8 (I0.up h_o0) (by decide +kernel)) (sF_c I0 J8 (I0.up h_o0) (by decide +kernel))
  have K30 : ∀ i : Nat, i ≠ 44 → ra M5 o0 6 i = ra M0 o0 6 i := (by have e9 := ((sA_c I0 J8 (I0.up h_o0) (by decide +kernel)) : sA [6] _ _ _) 6 rfl; rw [e9]; exact K3)
  have K31 : pN M5 o0 pn pN9 := yM.same (sA_c I0 J8 (I0.up h_o0) (by decide +kernel)) (sF_c I0 J8 (I0.up h_o0) (by decide +kernel))
  have Z932 : pO M5 o0 pb pn pa ps := yO.same (rE_hv I0 J8 (I0.up h_o0) 14 20 (by decide)) (rv_c I0 J8 (I0.up h_o0) (k := 23) rfl) (ra_call I0 J8 (I0.up h_o0) (k := 13) rfl rfl rfl)
  have d33 := Im.i (pO.w_26 yO (by have := yR.1 15 _ _ rfl; have := yR.1 16 _ _ rfl; have := yR.1 19 _ _ rfl; omega) (Im.o f16) (Im.o f17) (by have := yR.1 15 _ _ rfl; have := yR.1 16 _ _ rfl; have := yR.1 19 _ _ rfl; omega))
  refine mv_istore_n (lv' := [(1, .int v11), (0, .ref o0)]) d_TrustDeskModel_readClause_7 rfl (by decide) rfl ?_
  refine mv_iload_n d_TrustDeskModel_readClause_8 rfl rfl ?_
  have := mz_hi v11
  refine mv_if_neZ (tgt := 40) (a := v11.toInt) d_TrustDeskModel_readClause_9 (by decide) rfl (fun b34 => ?_) (fun b34 => ?_)
  · refine mv_aload_n d_TrustDeskModel_readClause_40 rfl rfl ?_
    obtain ⟨a36, q35, t_a36⟩ := tm_atR I9 t18 (k := 6) rfl
    refine tr_getK q35 d_TrustDeskModel_readClause_41 f_TrustDeskModel_23_13 ?_
    refine mv_bipush (v := 44) d_TrustDeskModel_readClause_44 (by decide) ?_
    refine tr_ialdR (o := o0) (k := 6) I9 q35 t_a36 (by decide) d_TrustDeskModel_readClause_46 (by unfold vp_in; decide) (fun v37 e38 => ?_)
    have := R14.a (k := 6) rfl (44 : Int32).toNatClampNeg
    have : v37.toInt = ra M5 o0 6 44 := e38
    have : v37.toInt = _ := Eq.trans e38 z26
    refine mv_bipush (v := 12) d_TrustDeskModel_readClause_47 (by decide) ?_
    have := mz_hi v37
    refine mv_icmp_eqZ (tgt := 65) (a := v37.toInt) (b := 12) d_TrustDeskModel_readClause_49 (by decide) rfl (by decide) (fun b39 => ?_) (fun b39 => ?_)
    · have h40 : Im (12 ≤ pc9) := Im.i (by omega)
      refine mv_aload_n d_TrustDeskModel_readClause_65 rfl rfl ?_
      refine mv_iconst (v := 4) d_TrustDeskModel_readClause_66 (by decide) ?_
      obtain ⟨_, b47, -⟩ := I9.1 _ _ t18
      have : (4 : Int32).toInt = 4 := by decide
      refine mv_callV (kc' := 0) (ks' := 0) (As := [.int 4]) (st9 := [.int 4, .ref o0]) d_TrustDeskModel_readClause_67 lV_TrustDeskModel_240 b47 rfl (tc_TrustDeskModel_fails_x (d := (d + 25)) (x9 := x9) (o0 := o0) (x1 := 4) t18 R14 (by decide) Z932 I9.start) rfl (Nat.le_of_ble_eq_true rfl) (Nat.le_of_ble_eq_true rfl) (Nat.le_of_ble_eq_true rfl) (hst := rfl) (fun b41r M42 n43 b41 => ?_)
      obtain ⟨T44, J45, rfl, R48, f49, f50⟩ := b41
      have I46 := I9.call J45 (tm_sub (by decide)) (Or.inl rfl)
      have t51 := J45.up t18
      have z52 := (rv_c I9 J45 (I9.up h_o0) (k := 15) rfl).trans z19
      have z53 := (rv_c I9 J45 (I9.up h_o0) (k := 16) rfl).trans z20
      have z54 := (rv_c I9 J45 (I9.up h_o0) (k := 17) rfl).trans z21
      have z55 := (rv_c I9 J45 (I9.up h_o0) (k := 22) rfl).trans z23
      have z56 := (rv_c I9 J45 (I9.up h_o0) (k := 24) rfl).trans z24
      have z57 := (ra_call I9 J45 (I9.up h_o0) (k := 5) rfl rfl rfl 44).trans z25
      have z58 := (ra_call I9 J45 (I9.up h_o0) (k := 6) rfl rfl rfl 44).trans z26
      have E59 : rE M0 M42 o0 0 0 := E27.fails (rE_hv I9 J45 (I9.up h_o0) 15 18 (by decide)) (rE_ha I9 J45 (I9.up h_o0) (by decide)) f49 0 0
      have K60 : rK M0 M42 o0 ((880 + ra M0 o0 6 44).toNat) := K28.same (sA_c I9 J45 (I9.up h_o0) (by decide +kernel))
      have K61 : nN M42 o0 := K29.same (sA_c I9 J45 (I9.up h_o0) (by decide +kernel)) (sF_c I9 J45 (I9.up h_o0) (by decide +kernel))
      have K62 : ∀ i : Nat, i ≠ 44 → ra M42 o0 6 i = ra M0 o0 6 i := (by have e9 := ((sA_c I9 J45 (I9.up h_o0) (by decide +kernel)) : sA [6] _ _ _) 6 rfl; rw [e9]; exact K30)
      have K63 : pN M42 o0 pn pN9 := K31.same (sA_c I9 J45 (I9.up h_o0) (by decide +kernel)) (sF_c I9 J45 (I9.up h_o0) (by decide +kernel))
      rw [show (4 : Int32).toInt = 4 from by decide] at f50
      obtain ⟨s64, e65⟩ : ∃ s9 : p_S, p_fl pb pn 4 ps = s9 := ⟨_, rfl⟩
      rw [e65] at f50
      have := f50.w
      clear z19 z20 z21 z23 z24 z25 z26
      have q66 := J45.keep t18 (by decide) q35
      have t67 := J45.up t_a36
      refine mv_aload_n d_TrustDeskModel_readClause_70 rfl rfl ?_
      obtain ⟨_, b68, -⟩ := I46.1 _ _ t51
      refine mv_callV (kc1 := 0) (ks1 := 0) (kc' := 0) (ks' := 0) (As := []) (st9 := [.ref o0]) d_TrustDeskModel_readClause_71 lV_TrustDeskModel_230 b68 rfl (mj_enter (by decide) (Nat.le_of_ble_eq_true rfl) ?_) rfl (Nat.le_of_ble_eq_true rfl) (Nat.le_of_ble_eq_true rfl) (Nat.le_of_ble_eq_true rfl) (hst := rfl) (fun _ _ _ h => h)
      refine mv_aload_n d_TrustDeskModel_isWell_0 rfl rfl ?_
      obtain ⟨v70, q69⟩ := tm_atI I46 t51 (k := 19) rfl
      refine tr_getK q69 d_TrustDeskModel_isWell_1 f_TrustDeskModel_224_13 ?_
      have := R48.f (k := 19) q69 rfl
      have := tm_rv q69
      refine mv_if_neZ (tgt := 11) (a := v70.toInt) d_TrustDeskModel_isWell_4 (by decide) rfl (fun b71 => ?_) (fun b71 => ?_)
      · refine mv_iconst (v := 0) d_TrustDeskModel_isWell_11 (by decide) ?_
        refine mv_iret d_TrustDeskModel_isWell_12 rfl (by decide) ?_
        refine mv_if_ne_f (tgt := 78) d_TrustDeskModel_readClause_74 (by decide) (by decide) ?_
        exact mv_vret d_TrustDeskModel_readClause_77 rfl ⟨_, I46, rfl, R48, (rW.of E59.1 (fun h9 => by exfalso; skip; have := R48.1 15 _ _ rfl; have := R48.1 16 _ _ rfl; have := R48.1 19 _ _ rfl; omega) (fun h9 => by exfalso; skip; have := R48.1 15 _ _ rfl; have := R48.1 16 _ _ rfl; have := R48.1 19 _ _ rfl; omega)), (rO.of E59 K60 (by have := yR.2 6 _ _ rfl 44; omega)), ⟨E59.2.1, fun w9 => by skip; have := E59.w2 w9; omega⟩, (fun w9 => by skip; omega), (fun _ h9 => by exfalso; skip; have := R48.1 15 _ _ rfl; have := R48.1 16 _ _ rfl; have := R48.1 19 _ _ rfl; omega), (by have := R48.1 15 _ _ rfl; have := R48.1 16 _ _ rfl; have := R48.1 19 _ _ rfl; omega), (by rw [show (p_cl pb pn pa (pc9, pN9, ps)).2 = s64 from (congrArg Prod.snd (p_cl_4 (yO.w.symm.trans yw) (Or.inl (pW1 (Im.o d33) (by omega))) (Or.inl (Im.o h40)))).trans (by show _ = _; (try dsimp only); (try (first | (simp only [e65]; done) | (simp only [e65]; first | exact p_sg_Z _ (by omega) | omega))))]; exact f50), (fun w9 => by skip; omega), (fun h9 => by exfalso; skip; have := R48.1 15 _ _ rfl; have := R48.1 16 _ _ rfl; have := R48.1 19 _ _ rfl; omega), K62⟩
      · exfalso
        have := R48.1 15 _ _ rfl; have := R48.1 16 _ _ rfl; have := R48.1 19 _ _ rfl; omega
    · have h72 : Im (¬ 12 ≤ pc9) := Im.i (by omega)
      refine mv_iload_n d_TrustDeskModel_readClause_52 rfl rfl ?_
      have := mz_hi v11
      refine mv_if_eqZ (tgt := 70) (a := v11.toInt) d_TrustDeskModel_readClause_53 (by decide) rfl (fun b73 => absurd b73 (by omega)) (fun b73 => ?_)
      refine mv_aload_n d_TrustDeskModel_readClause_56 rfl rfl ?_
      obtain ⟨v75, q74⟩ := tm_atI I9 t18 (k := 24) rfl
      refine tr_getK q74 d_TrustDeskModel_readClause_57 f_TrustDeskModel_321_13 ?_
      have := R14.f (k := 24) q74 rfl
      have := (tm_rv q74).symm.trans z24
      have := tm_rv q74
      refine mv_bipush (v := 6) d_TrustDeskModel_readClause_60 (by decide) ?_
      have := mz_hi v75
      refine mv_icmp_neZ (tgt := 70) (a := v75.toInt) (b := 6) d_TrustDeskModel_readClause_62 (by decide) rfl (by decide) (fun b76 => ?_) (fun b76 => ?_)
      · have h77 : Im (¬ (p_wi pb pn ps.2.2 = 26 ∧ 6 ≤ pN9.length)) := Im.i (fun h9 => by have h8 := h9.2; omega)
        refine mv_aload_n d_TrustDeskModel_readClause_70 rfl rfl ?_
        obtain ⟨_, b78, -⟩ := I9.1 _ _ t18
        refine mv_callV (kc1 := 0) (ks1 := 0) (kc' := 0) (ks' := 0) (As := []) (st9 := [.ref o0]) d_TrustDeskModel_readClause_71 lV_TrustDeskModel_230 b78 rfl (mj_enter (by decide) (Nat.le_of_ble_eq_true rfl) ?_) rfl (Nat.le_of_ble_eq_true rfl) (Nat.le_of_ble_eq_true rfl) (Nat.le_of_ble_eq_true rfl) (hst := rfl) (fun _ _ _ h => h)
        refine mv_aload_n d_TrustDeskModel_isWell_0 rfl rfl ?_
        obtain ⟨v80, q79⟩ := tm_atI I9 t18 (k := 19) rfl
        refine tr_getK q79 d_TrustDeskModel_isWell_1 f_TrustDeskModel_224_13 ?_
        have := R14.f (k := 19) q79 rfl
        have := (tm_rv q79).symm.trans z22
        have := tm_rv q79
        have := mz_hi v80
        refine mv_if_neZ (tgt := 11) (a := v80.toInt) d_TrustDeskModel_isWell_4 (by decide) rfl (fun b81 => ?_) (fun b81 => ?_)
        · refine mv_iconst (v := 0) d_TrustDeskModel_isWell_11 (by decide) ?_
          refine mv_iret d_TrustDeskModel_isWell_12 rfl (by decide) ?_
          refine mv_if_ne_f (tgt := 78) d_TrustDeskModel_readClause_74 (by decide) (by decide) ?_
          exact mv_vret d_TrustDeskModel_readClause_77 rfl ⟨_, I9, rfl, R14, (rW.of E27.1 (E27.s yS (by decide)) (fun w9 => by skip; exact rG.step yG yR E27 w9 K28 (by have := yR.2 6 _ _ rfl 44; omega) (by have := R14.1 15 _ _ rfl; have := R14.1 16 _ _ rfl; have := R14.1 19 _ _ rfl; omega) (by have := R14.1 15 _ _ rfl; have := R14.1 16 _ _ rfl; have := R14.1 19 _ _ rfl; omega) (fun h9 => by exfalso; have := R14.1 15 _ _ rfl; have := R14.1 16 _ _ rfl; have := R14.1 19 _ _ rfl; omega) (fun h9 => (by have := R14.1 15 _ _ rfl; have := R14.1 16 _ _ rfl; have := R14.1 19 _ _ rfl; omega)) (by have := R14.1 15 _ _ rfl; have := R14.1 16 _ _ rfl; have := R14.1 19 _ _ rfl; omega) K29)), (rO.of E27 K28 (by have := yR.2 6 _ _ rfl 44; omega)), ⟨E27.2.1, fun w9 => by skip; have := E27.w2 w9; omega⟩, (fun w9 => by skip; omega), (fun _ h9 => absurd h9 (by have := R14.1 15 _ _ rfl; have := R14.1 16 _ _ rfl; have := R14.1 19 _ _ rfl; omega)), (by have := R14.1 15 _ _ rfl; have := R14.1 16 _ _ rfl; have := R14.1 19 _ _ rfl; omega), (by rw [show (p_cl pb pn pa (pc9, pN9, ps)).2 = ps from (congrArg Prod.snd (p_cl_nz (by omega))).trans (by show _ = _; (try dsimp only); (try (first | (simp only [eq_self]; done) | (simp only [eq_self]; first | exact p_sg_Z _ (by omega) | omega))))]; exact Z932), (fun w9 => by skip; omega), (fun h9 => by exfalso; skip; have := R14.1 15 _ _ rfl; have := R14.1 16 _ _ rfl; have := R14.1 19 _ _ rfl; omega), K30⟩
        · refine mv_iconst (v := 1) d_TrustDeskModel_isWell_7 (by decide) ?_
          refine mv_goto (tgt := 12) d_TrustDeskModel_isWell_8 (by decide) ?_
          refine mv_iret d_TrustDeskModel_isWell_12 rfl (by decide) ?_
          refine mv_if_ne_t (tgt := 78) d_TrustDeskModel_readClause_74 (by decide) (by decide) ?_
          refine mv_aload_n d_TrustDeskModel_readClause_78 rfl rfl ?_
          refine mv_ldcSw (id := 43) (tx := "mark") d_TrustDeskModel_readClause_79 (List.mem_of_getElem? (i := 33) rfl) ?_
          obtain ⟨_, b88, -⟩ := I9.1 _ _ t18
          refine mv_callV (kc' := 0) (ks' := 0) (As := [.ref 43]) (st9 := [.ref 43, .ref o0]) d_TrustDeskModel_readClause_82 lV_TrustDeskModel_244 b88 rfl (tc_TrustDeskModel_isWord_s1_43_x (d := (d + 21)) (x9 := x9) (o0 := o0) t18 R14 I9.start) rfl (Nat.le_of_ble_eq_true rfl) (Nat.le_of_ble_eq_true rfl) (Nat.le_of_ble_eq_true rfl) (hst := rfl) (fun b82r M83 n84 b82 => ?_)
          obtain ⟨T85, J86, v89, rfl, b90, b91, R92, f93, f94, f95⟩ := b82
          have I87 := I9.call J86 (tm_sub (by decide)) (Or.inl rfl)
          have t96 := J86.up t18
          replace f93 := Im.i f93
          replace f94 := Im.i f94
          replace f95 := Im.i f95
          have z97 := (rv_c I9 J86 (I9.up h_o0) (k := 15) rfl).trans z19
          have z98 := (rv_c I9 J86 (I9.up h_o0) (k := 16) rfl).trans z20
          have z99 := (rv_c I9 J86 (I9.up h_o0) (k := 17) rfl).trans z21
          have z100 := (rv_c I9 J86 (I9.up h_o0) (k := 19) rfl).trans z22
          have z101 := (rv_c I9 J86 (I9.up h_o0) (k := 22) rfl).trans z23
          have z102 := (rv_c I9 J86 (I9.up h_o0) (k := 24) rfl).trans z24
          have z103 := (ra_call I9 J86 (I9.up h_o0) (k := 5) rfl rfl rfl 44).trans z25
          have z104 := (ra_call I9 J86 (I9.up h_o0) (k := 6) rfl rfl rfl 44).trans z26
          have E105 : rE M0 M83 o0 0 0 := E27.same (rE_hv I9 J86 (I9.up h_o0) 15 19 (by decide)) (rE_ha I9 J86 (I9.up h_o0) (by decide))
          have K106 : rK M0 M83 o0 ((880 + ra M0 o0 6 44).toNat) := K28.same (sA_c I9 J86 (I9.up h_o0) (by decide +kernel))
          have K107 : nN M83 o0 := K29.same (sA_c I9 J86 (I9.up h_o0) (by decide +kernel)) (sF_c I9 J86 (I9.up h_o0) (by decide +kernel))
          have K108 : ∀ i : Nat, i ≠ 44 → ra M83 o0 6 i = ra M0 o0 6 i := (by have e9 := ((sA_c I9 J86 (I9.up h_o0) (by decide +kernel)) : sA [6] _ _ _) 6 rfl; rw [e9]; exact K30)
          have K109 : pN M83 o0 pn pN9 := K31.same (sA_c I9 J86 (I9.up h_o0) (by decide +kernel)) (sF_c I9 J86 (I9.up h_o0) (by decide +kernel))
          have Z9110 : pO M83 o0 pb pn pa ps := Z932.same (rE_hv I9 J86 (I9.up h_o0) 14 20 (by decide)) (rv_c I9 J86 (I9.up h_o0) (k := 23) rfl) (ra_call I9 J86 (I9.up h_o0) (k := 13) rfl rfl rfl)
          have d111 := Im.i (pO.w_24 Z932 (by have := R14.1 15 _ _ rfl; have := R14.1 16 _ _ rfl; have := R14.1 19 _ _ rfl; omega) (Im.o f94) (Im.o f95) (by have := R14.1 15 _ _ rfl; have := R14.1 16 _ _ rfl; have := R14.1 19 _ _ rfl; omega))
          clear z23 z24 z25 z26
          have q112 := J86.keep t18 (by decide) q35
          have t113 := J86.up t_a36
          have q114 := J86.keep t18 (by decide) q74
          have q115 := J86.keep t18 (by decide) q79
          refine mv_istore_n (lv' := [(2, .int v89), (1, .int v11), (0, .ref o0)]) d_TrustDeskModel_readClause_85 rfl (by decide) rfl ?_
          refine mv_aload_n d_TrustDeskModel_readClause_86 rfl rfl ?_
          refine mv_iload_n d_TrustDeskModel_readClause_87 rfl rfl ?_
          have := mz_hi v11
          refine mv_if_eqZ (tgt := 96) (a := v11.toInt) d_TrustDeskModel_readClause_88 (by decide) rfl (fun b116 => absurd b116 (by omega)) (fun b116 => ?_)
          refine mv_bipush (v := 8) d_TrustDeskModel_readClause_91 (by decide) ?_
          refine mv_goto (tgt := 107) d_TrustDeskModel_readClause_93 (by decide) ?_
          obtain ⟨_, b123, -⟩ := I87.1 _ _ t96
          have : (8 : Int32).toInt = 8 := by decide
          refine mv_callV (kc' := 0) (ks' := 0) (As := [.int 8]) (st9 := [.int 8, .ref o0]) d_TrustDeskModel_readClause_107 lV_TrustDeskModel_342 b123 rfl (tc_TrustDeskModel_begin_a (d := (d + 23)) (x9 := x9) (o0 := o0) (x1 := 8) t96 R92 E105.1 (E105.s yS (by decide)) (by have := R92.1 15 _ _ rfl; have := R92.1 16 _ _ rfl; have := R92.1 19 _ _ rfl; omega) (by have := f15.o (by omega); omega) (by have := R92.1 15 _ _ rfl; have := R92.1 16 _ _ rfl; have := R92.1 19 _ _ rfl; omega) Z9110 I87.start) rfl (Nat.le_of_ble_eq_true rfl) (Nat.le_of_ble_eq_true rfl) (Nat.le_of_ble_eq_true rfl) (hst := rfl) (fun b117r M118 n119 b117 => ?_)
          obtain ⟨T120, J121, v124, rfl, R125, f126, f127, f128, f129, f130, f131, f132, f133⟩ := b117
          have I122 := I87.call J121 (tm_sub (by decide)) (Or.inl rfl)
          have t134 := J121.up t96
          have := f126.2.1
          have f135 := Im.i f126.w.2
          have f136 := Im.i f126.w2
          have z137 := (rv_c I87 J121 (I87.up h_o0) (k := 19) rfl).trans z100
          have z138 := (rv_c I87 J121 (I87.up h_o0) (k := 22) rfl).trans z101
          have z139 := (rv_c I87 J121 (I87.up h_o0) (k := 24) rfl).trans z102
          have z140 := (ra_call I87 J121 (I87.up h_o0) (k := 5) rfl rfl rfl 44).trans z103
          have E141 : rE M0 M118 o0 0 1 := E105.trans f126 (by decide) (yR.2 5 _ _ rfl 44).1 (by decide) (by decide)
          have h142 : (880 + ra M83 o0 6 44).toNat = (880 + ra M0 o0 6 44).toNat := by omega
          rw [h142] at f129 f130 f131
          have K143 : rK M0 M118 o0 ((880 + ra M0 o0 6 44).toNat) := K106.trans f131
          have K144 : nN M118 o0 := K107.same (sA_c I87 J121 (I87.up h_o0) (by decide +kernel)) (sF_c I87 J121 (I87.up h_o0) (by decide +kernel))
          have K145 : ∀ i : Nat, i ≠ 44 → ra M118 o0 6 i = ra M0 o0 6 i := (fun i h9 => (f133 i h9).trans (K108 i h9))
          have K146 : pN M118 o0 pn pN9 := K109.same (sA_c I87 J121 (I87.up h_o0) (by decide +kernel)) (sF_c I87 J121 (I87.up h_o0) (by decide +kernel))
          obtain ⟨s147, e148⟩ : ∃ s9 : p_S, p_nx ps = s9 := ⟨_, rfl⟩
          rw [e148] at f132
          have := f132.w
          clear z101 z102
          have q149 := J121.keep t96 (by decide) q112
          have t150 := J121.up t113
          have q151 := J121.keep t96 (by decide) q114
          have q152 := J121.keep t96 (by decide) q115
          refine mv_istore_n (lv' := [(3, .int v124), (2, .int v89), (1, .int v11), (0, .ref o0)]) d_TrustDeskModel_readClause_110 rfl (by decide) rfl ?_
          refine mv_iload_n d_TrustDeskModel_readClause_111 rfl rfl ?_
          have := mz_hi v11
          refine mv_if_eqZ (tgt := 123) (a := v11.toInt) d_TrustDeskModel_readClause_112 (by decide) rfl (fun b153 => absurd b153 (by omega)) (fun b153 => ?_)
          refine mv_aload_n d_TrustDeskModel_readClause_115 rfl rfl ?_
          refine mv_iload_n d_TrustDeskModel_readClause_116 rfl rfl ?_
          obtain ⟨_, b160, -⟩ := I122.1 _ _ t134
          refine mv_callV (kc' := 0) (ks' := 0) (As := [.int v124]) (st9 := [.int v124, .ref o0]) d_TrustDeskModel_readClause_117 lV_TrustDeskModel_345 b160 rfl (tc_TrustDeskModel_readEnd_x (d := d) (x9 := x9) (o0 := o0) (x1 := v124) t134 R125 E141.1 (E141.s yS (by decide)) (by have := R125.1 15 _ _ rfl; have := R125.1 16 _ _ rfl; have := R125.1 19 _ _ rfl; omega) (by have := R125.1 15 _ _ rfl; have := R125.1 16 _ _ rfl; have := R125.1 19 _ _ rfl; omega) (by have := R125.1 15 _ _ rfl; have := R125.1 16 _ _ rfl; have := R125.1 19 _ _ rfl; omega) K144 (by have := R125.1 15 _ _ rfl; have := R125.1 16 _ _ rfl; have := R125.1 19 _ _ rfl; omega) f132 K146 I122.start) rfl (Nat.le_of_ble_eq_true rfl) (Nat.le_of_ble_eq_true rfl) (Nat.le_of_ble_eq_true rfl) (hst := rfl) (fun b154r M155 n156 b154 => ?_)
          obtain ⟨T157, J158, rfl, R161, f162, f163, f164, f165, f166, f167, f168, f169⟩ := b154
          have I159 := I122.call J158 (tm_sub (by decide)) (Or.inl rfl)
          have t170 := J158.up t134
          have := f162.2.1
          have f171 := Im.i f162.w.2
          have f172 := Im.i f162.w2
          replace f165 := Im.i f165
          replace f167 := Im.i f167
          replace f169 := Im.i f169
          have z173 := (ra_call I122 J158 (I122.up h_o0) (k := 6) rfl rfl rfl 44)
          have z174 := (ra_call I122 J158 (I122.up h_o0) (k := 7) rfl rfl rfl ((880 + ra M0 o0 6 44).toNat))
          have z175 := (ra_call I122 J158 (I122.up h_o0) (k := 10) rfl rfl rfl ((880 + ra M0 o0 6 44).toNat))
          have E176 : rE M0 M155 o0 2 1 := E141.trans f162 (by decide) (yR.2 5 _ _ rfl 44).1 (by decide) (by decide)
          have h177 : v124.toNatClampNeg = (880 + ra M0 o0 6 44).toNat := by have := mz_nat9 (i := v124) (by have := R125.1 15 _ _ rfl; have := R125.1 16 _ _ rfl; have := R125.1 19 _ _ rfl; omega); have := R125.1 15 _ _ rfl; have := R125.1 16 _ _ rfl; have := R125.1 19 _ _ rfl; omega
          rw [h177] at f163 f165 f167
          have K178 : rK M0 M155 o0 ((880 + ra M0 o0 6 44).toNat) := K143.trans f163
          have K179 : nN M155 o0 := f164
          have K180 : ∀ i : Nat, i ≠ 44 → ra M155 o0 6 i = ra M0 o0 6 i := (by have e9 := ((sA_c I122 J158 (I122.up h_o0) (by decide +kernel)) : sA [6] _ _ _) 6 rfl; rw [e9]; exact K145)
          have K181 : rv M155 o0 19 = 0 → rD M118 M155 o0 (880 + ra M0 o0 6 44).toNat := f167
          have K182 : rv M155 o0 19 = 0 → pN M155 o0 pn (pN9 ++ [(p_st pb pn s147.2.2, p_sp pb pn s147.2.2)]) := f169.o
          obtain ⟨s183, e184⟩ : ∃ s9 : p_S, p_en1 pb pn pa pN9 s147 = s9 := ⟨_, rfl⟩
          rw [e184] at f168
          have := f168.w
          have q185 := J158.keep t134 (by decide) q149
          have t186 := J158.up t150
          refine mv_goto (tgt := 165) d_TrustDeskModel_readClause_120 (by decide) ?_
          refine mv_aload_n d_TrustDeskModel_readClause_165 rfl rfl ?_
          refine mv_bipush (v := 59) d_TrustDeskModel_readClause_166 (by decide) ?_
          obtain ⟨_, b193, -⟩ := I159.1 _ _ t170
          have : (59 : Int32).toInt = 59 := by decide
          refine mv_callV (kc' := 0) (ks' := 0) (As := [.int 59]) (st9 := [.int 59, .ref o0]) d_TrustDeskModel_readClause_168 lV_TrustDeskModel_291 b193 rfl (tc_TrustDeskModel_wantSign_x (d := (d + 23)) (x9 := x9) (o0 := o0) (x1 := 59) t170 R161 E176.1 (E176.s yS (by decide)) (by decide) f168 I159.start) rfl (Nat.le_of_ble_eq_true rfl) (Nat.le_of_ble_eq_true rfl) (Nat.le_of_ble_eq_true rfl) (hst := rfl) (fun b187r M188 n189 b187 => ?_)
          obtain ⟨T190, J191, rfl, R194, f195, f196⟩ := b187
          have I192 := I159.call J191 (tm_sub (by decide)) (Or.inl rfl)
          have t197 := J191.up t170
          have := f195.2.1
          have f198 := Im.i f195.w.2
          have f199 := Im.i f195.w2
          have z200 := (rv_c I159 J191 (I159.up h_o0) (k := 22) rfl)
          have z201 := (rv_c I159 J191 (I159.up h_o0) (k := 24) rfl)
          have z202 := (ra_call I159 J191 (I159.up h_o0) (k := 5) rfl rfl rfl 44)
          have z203 := (ra_call I159 J191 (I159.up h_o0) (k := 6) rfl rfl rfl 44).trans z173
          have z204 := (ra_call I159 J191 (I159.up h_o0) (k := 7) rfl rfl rfl ((880 + ra M0 o0 6 44).toNat)).trans z174
          have z205 := (ra_call I159 J191 (I159.up h_o0) (k := 10) rfl rfl rfl ((880 + ra M0 o0 6 44).toNat)).trans z175
          have z206 := (ra_call I159 J191 (I159.up h_o0) (k := 8) rfl rfl rfl ((880 + ra M0 o0 6 44).toNat))
          have E207 : rE M0 M188 o0 2 2 := E176.trans f195 (by decide) (yR.2 5 _ _ rfl 44).1 (by decide) (by decide)
          have K208 : rK M0 M188 o0 ((880 + ra M0 o0 6 44).toNat) := K178.same (sA_c I159 J191 (I159.up h_o0) (by decide +kernel))
          have K209 : nN M188 o0 := K179.same (sA_c I159 J191 (I159.up h_o0) (by decide +kernel)) (sF_c I159 J191 (I159.up h_o0) (by decide +kernel))
          have K210 : ∀ i : Nat, i ≠ 44 → ra M188 o0 6 i = ra M0 o0 6 i := (by have e9 := ((sA_c I159 J191 (I159.up h_o0) (by decide +kernel)) : sA [6] _ _ _) 6 rfl; rw [e9]; exact K180)
          have K211 : rv M188 o0 19 = 0 → rD M118 M188 o0 (880 + ra M0 o0 6 44).toNat := (fun w9 => (K181 (f195.w.2 w9)).same (sA_c I159 J191 (I159.up h_o0) (by decide)))
          have K212 : rv M188 o0 19 = 0 → pN M188 o0 pn (pN9 ++ [(p_st pb pn s147.2.2, p_sp pb pn s147.2.2)]) := (fun w9 => (K182 (f195.w.2 w9)).same (sA_c I159 J191 (I159.up h_o0) (by decide)) (sF_c I159 J191 (I159.up h_o0) (by decide)))
          rw [show (59 : Int32).toInt = 59 from by decide] at f196
          obtain ⟨s213, e214⟩ : ∃ s9 : p_S, p_sg pb pn 59 s183 = s9 := ⟨_, rfl⟩
          rw [e214] at f196
          have := f196.w
          clear z173 z174 z175
          have q215 := J191.keep t170 (by decide) q185
          have t216 := J191.up t186
          refine mv_aload_n d_TrustDeskModel_readClause_171 rfl rfl ?_
          obtain ⟨a218, q217, t_a218⟩ := tm_atR I192 t197 (k := 12) rfl
          refine tr_getK q217 d_TrustDeskModel_readClause_172 f_TrustDeskModel_41_13 ?_
          refine mv_iload_n d_TrustDeskModel_readClause_175 rfl rfl ?_
          refine mv_aload_n d_TrustDeskModel_readClause_176 rfl rfl ?_
          obtain ⟨a220, q219, t_a220⟩ := tm_atR I192 t197 (k := 5) rfl
          refine tr_getK q219 d_TrustDeskModel_readClause_177 f_TrustDeskModel_20_13 ?_
          refine mv_bipush (v := 44) d_TrustDeskModel_readClause_180 (by decide) ?_
          refine tr_ialdR (o := o0) (k := 5) I192 q219 t_a220 (by decide) d_TrustDeskModel_readClause_182 (by unfold vp_in; decide) (fun v221 e222 => ?_)
          have := R194.a (k := 5) rfl (44 : Int32).toNatClampNeg
          have : v221.toInt = ra M188 o0 5 44 := e222
          have : v221.toInt = _ := Eq.trans e222 z202
          refine tr_iastR (k := 12) I192 R194 (I192.up h_o0) q217 t_a218 (by decide) (by decide) (fun lo hi h => by cases h; have := R194.1 15 _ _ rfl; have := R194.1 16 _ _ rfl; have := R194.1 19 _ _ rfl; exact ⟨by show (0 : Int) ≤ v221.toInt; omega, by show v221.toInt ≤ (400 : Int); omega⟩) (Or.inl (by decide)) d_TrustDeskModel_readClause_183 (vp_in_iff.mpr (by have := R194.1 15 _ _ rfl; have := R194.1 16 _ _ rfl; have := R194.1 19 _ _ rfl; omega)) (fun M223 I224 K225 R226 E227 A228 V229 => ?_)
          have z230 := (V229 15)
          have z231 := (V229 16)
          have z232 := (V229 17)
          have z233 := (V229 19)
          have z234 := (V229 22).trans z200
          have z235 := (V229 24).trans z201
          have z236 := (A228 5 (by decide) rfl 44).trans z202
          have z237 := (A228 6 (by decide) rfl 44).trans z203
          have z238 := (A228 7 (by decide) rfl ((880 + ra M0 o0 6 44).toNat)).trans z204
          have z239 := (A228 10 (by decide) rfl ((880 + ra M0 o0 6 44).toNat)).trans z205
          have z240 := (A228 8 (by decide) rfl ((880 + ra M0 o0 6 44).toNat)).trans z206
          have E241 : rE M0 M223 o0 2 2 := E207.same (fun k _ _ => V229 k) (fun k h1 h2 => A228 k (by omega) (by rcases (show k = 4 ∨ k = 5 by omega) with rfl | rfl <;> rfl))
          have h242 : (880 + ra M0 o0 6 44).toNat = v124.toNatClampNeg := by have := mz_nat9 (i := v124) (by have := R194.1 15 _ _ rfl; have := R194.1 16 _ _ rfl; have := R194.1 19 _ _ rfl; omega); have := R194.1 15 _ _ rfl; have := R194.1 16 _ _ rfl; have := R194.1 19 _ _ rfl; omega
          have z243 : ra M223 o0 12 ((880 + ra M0 o0 6 44).toNat) = v221.toInt := (E227 _).trans (if_pos h242)
          have K244 : rK M0 M223 o0 ((880 + ra M0 o0 6 44).toNat) := K208.st A228 E227 (by have := mz_nat9 (i := v124) (by have := R194.1 15 _ _ rfl; have := R194.1 16 _ _ rfl; have := R194.1 19 _ _ rfl; omega); have := R194.1 15 _ _ rfl; have := R194.1 16 _ _ rfl; have := R194.1 19 _ _ rfl; omega)
          have K245 : nN M223 o0 := K209.same (sA_a A228 (by decide +kernel)) (sF_a V229)
          have K246 : ∀ i : Nat, i ≠ 44 → ra M223 o0 6 i = ra M0 o0 6 i := (by have e9 := ((sA_a A228 (by decide +kernel)) : sA [6] _ _ _) 6 rfl; rw [e9]; exact K210)
          have K247 : rv M223 o0 19 = 0 → rD M118 M223 o0 (880 + ra M0 o0 6 44).toNat := (fun w9 => (K211 (by have e9 := ((sF_a V229) : sF [19] _ _ _) 19 rfl; rw [← e9]; exact w9)).same (sA_a A228 (by decide +kernel)))
          have K248 : rv M223 o0 19 = 0 → pN M223 o0 pn (pN9 ++ [(p_st pb pn s147.2.2, p_sp pb pn s147.2.2)]) := (fun w9 => (K212 (by have e9 := ((sF_a V229) : sF [19, 24] _ _ _) 19 rfl; rw [← e9]; exact w9)).same (sA_a A228 (by decide +kernel)) (fun k hk => ((sF_a V229) : sF [19, 24] _ _ _) k (by simp at hk; subst hk; rfl)))
          have Z9249 : pO M223 o0 pb pn pa s213 := f196.same (fun k _ _ => V229 k) (V229 23) (A228 13 (by decide) rfl)
          clear z200 z201 z202 z203 z204 z205 z206
          exact mv_vret d_TrustDeskModel_readClause_184 rfl ⟨_, I224, rfl, R226, (rW.of E241.1 (E241.s yS (by decide)) (fun w9 => by have u91 : rv M188 o0 19 = 0 := (by omega); have := f198.o u91; have := f199.o u91; have u92 : rv M155 o0 19 = 0 := (by omega); have := f171.o u92; have := f172.o u92; have := f165.o u92; have := f167.o u92; have := f169.o u92; have u93 : rv M118 o0 19 = 0 := (by omega); have := f135.o u93; have := f136.o u93; exact rG.step yG yR E241 w9 K244 (by have := yR.2 6 _ _ rfl 44; omega) (by have := R226.1 15 _ _ rfl; have := R226.1 16 _ _ rfl; have := R226.1 19 _ _ rfl; omega) (by have := R226.1 15 _ _ rfl; have := R226.1 16 _ _ rfl; have := R226.1 19 _ _ rfl; omega) (fun _ => rowN.ofD (K247 w9) (by have := R226.1 15 _ _ rfl; have := R226.1 16 _ _ rfl; have := R226.1 19 _ _ rfl; omega) (by have := R226.1 15 _ _ rfl; have := R226.1 16 _ _ rfl; have := R226.1 19 _ _ rfl; omega)) (fun h9 => (by have := R226.1 15 _ _ rfl; have := R226.1 16 _ _ rfl; have := R226.1 19 _ _ rfl; omega)) (by have := R226.1 15 _ _ rfl; have := R226.1 16 _ _ rfl; have := R226.1 19 _ _ rfl; omega) K245)), (rO.of E241 K244 (by have := yR.2 6 _ _ rfl 44; omega)), ⟨E241.2.1, fun w9 => by skip; have := E241.w2 w9; omega⟩, (fun w9 => by have u91 : rv M188 o0 19 = 0 := (by omega); have := f198.o u91; have := f199.o u91; have u92 : rv M155 o0 19 = 0 := (by omega); have := f171.o u92; have := f172.o u92; have := f165.o u92; have := f167.o u92; have := f169.o u92; have u93 : rv M118 o0 19 = 0 := (by omega); have := f135.o u93; have := f136.o u93; omega), (fun _ w9 => by have u91 : rv M188 o0 19 = 0 := (by omega); have := f198.o u91; have := f199.o u91; have u92 : rv M155 o0 19 = 0 := (by omega); have := f171.o u92; have := f172.o u92; have := f165.o u92; have := f167.o u92; have := f169.o u92; have u93 : rv M118 o0 19 = 0 := (by omega); have := f135.o u93; have := f136.o u93; exact ⟨(by have := R226.1 15 _ _ rfl; have := R226.1 16 _ _ rfl; have := R226.1 19 _ _ rfl; omega), (by have := R226.1 15 _ _ rfl; have := R226.1 16 _ _ rfl; have := R226.1 19 _ _ rfl; omega)⟩), (by have := R226.1 15 _ _ rfl; have := R226.1 16 _ _ rfl; have := R226.1 19 _ _ rfl; omega), (by rw [show (p_cl pb pn pa (pc9, pN9, ps)).2 = s213 from (congrArg Prod.snd (p_cl_e (yO.w.symm.trans yw) (pW1 (Im.o d33) (by omega)) (Im.o h72) (fun h9 => Im.o h77 ⟨(pW1 (Im.o d33) (by omega)), h9⟩))).trans (by show _ = _; (try dsimp only); (try (first | (simp only [e148, e184, e214]; done) | (simp only [e148, e184, e214]; first | exact p_sg_Z _ (by omega) | omega))))]; exact Z9249), (fun w9 => by have u91 : rv M188 o0 19 = 0 := (by omega); have := f198.o u91; have := f199.o u91; have u92 : rv M155 o0 19 = 0 := (by omega); have := f171.o u92; have := f172.o u92; have := f165.o u92; have := f167.o u92; have := f169.o u92; have u93 : rv M118 o0 19 = 0 := (by omega); have := f135.o u93; have := f136.o u93; omega), (fun w9 => by have e9 : (p_cl pb pn pa (pc9, pN9, ps)).1 = pN9 ++ [(p_st pb pn s147.2.2, p_sp pb pn s147.2.2)] := (congrArg Prod.fst (p_cl_e (yO.w.symm.trans yw) (pW1 (Im.o d33) (by omega)) (Im.o h72) (fun h9 => Im.o h77 ⟨(pW1 (Im.o d33) (by omega)), h9⟩))).trans (by (try rw [← e148]); rfl); rw [e9]; exact (K248 w9)), K246⟩
      · have h250 : Im (6 ≤ pN9.length) := Im.i (by omega)
        refine mv_aload_n d_TrustDeskModel_readClause_65 rfl rfl ?_
        refine mv_iconst (v := 4) d_TrustDeskModel_readClause_66 (by decide) ?_
        obtain ⟨_, b257, -⟩ := I9.1 _ _ t18
        have : (4 : Int32).toInt = 4 := by decide
        refine mv_callV (kc' := 0) (ks' := 0) (As := [.int 4]) (st9 := [.int 4, .ref o0]) d_TrustDeskModel_readClause_67 lV_TrustDeskModel_240 b257 rfl (tc_TrustDeskModel_fails_x (d := (d + 25)) (x9 := x9) (o0 := o0) (x1 := 4) t18 R14 (by decide) Z932 I9.start) rfl (Nat.le_of_ble_eq_true rfl) (Nat.le_of_ble_eq_true rfl) (Nat.le_of_ble_eq_true rfl) (hst := rfl) (fun b251r M252 n253 b251 => ?_)
        obtain ⟨T254, J255, rfl, R258, f259, f260⟩ := b251
        have I256 := I9.call J255 (tm_sub (by decide)) (Or.inl rfl)
        have t261 := J255.up t18
        have z262 := (rv_c I9 J255 (I9.up h_o0) (k := 15) rfl).trans z19
        have z263 := (rv_c I9 J255 (I9.up h_o0) (k := 16) rfl).trans z20
        have z264 := (rv_c I9 J255 (I9.up h_o0) (k := 17) rfl).trans z21
        have z265 := (rv_c I9 J255 (I9.up h_o0) (k := 22) rfl).trans z23
        have z266 := (rv_c I9 J255 (I9.up h_o0) (k := 24) rfl).trans z24
        have z267 := (ra_call I9 J255 (I9.up h_o0) (k := 5) rfl rfl rfl 44).trans z25
        have z268 := (ra_call I9 J255 (I9.up h_o0) (k := 6) rfl rfl rfl 44).trans z26
        have E269 : rE M0 M252 o0 0 0 := E27.fails (rE_hv I9 J255 (I9.up h_o0) 15 18 (by decide)) (rE_ha I9 J255 (I9.up h_o0) (by decide)) f259 0 0
        have K270 : rK M0 M252 o0 ((880 + ra M0 o0 6 44).toNat) := K28.same (sA_c I9 J255 (I9.up h_o0) (by decide +kernel))
        have K271 : nN M252 o0 := K29.same (sA_c I9 J255 (I9.up h_o0) (by decide +kernel)) (sF_c I9 J255 (I9.up h_o0) (by decide +kernel))
        have K272 : ∀ i : Nat, i ≠ 44 → ra M252 o0 6 i = ra M0 o0 6 i := (by have e9 := ((sA_c I9 J255 (I9.up h_o0) (by decide +kernel)) : sA [6] _ _ _) 6 rfl; rw [e9]; exact K30)
        have K273 : pN M252 o0 pn pN9 := K31.same (sA_c I9 J255 (I9.up h_o0) (by decide +kernel)) (sF_c I9 J255 (I9.up h_o0) (by decide +kernel))
        rw [show (4 : Int32).toInt = 4 from by decide] at f260
        obtain ⟨s274, e275⟩ : ∃ s9 : p_S, p_fl pb pn 4 ps = s9 := ⟨_, rfl⟩
        rw [e275] at f260
        have := f260.w
        clear z19 z20 z21 z23 z24 z25 z26
        have q276 := J255.keep t18 (by decide) q35
        have t277 := J255.up t_a36
        have q278 := J255.keep t18 (by decide) q74
        refine mv_aload_n d_TrustDeskModel_readClause_70 rfl rfl ?_
        obtain ⟨_, b279, -⟩ := I256.1 _ _ t261
        refine mv_callV (kc1 := 0) (ks1 := 0) (kc' := 0) (ks' := 0) (As := []) (st9 := [.ref o0]) d_TrustDeskModel_readClause_71 lV_TrustDeskModel_230 b279 rfl (mj_enter (by decide) (Nat.le_of_ble_eq_true rfl) ?_) rfl (Nat.le_of_ble_eq_true rfl) (Nat.le_of_ble_eq_true rfl) (Nat.le_of_ble_eq_true rfl) (hst := rfl) (fun _ _ _ h => h)
        refine mv_aload_n d_TrustDeskModel_isWell_0 rfl rfl ?_
        obtain ⟨v281, q280⟩ := tm_atI I256 t261 (k := 19) rfl
        refine tr_getK q280 d_TrustDeskModel_isWell_1 f_TrustDeskModel_224_13 ?_
        have := R258.f (k := 19) q280 rfl
        have := tm_rv q280
        refine mv_if_neZ (tgt := 11) (a := v281.toInt) d_TrustDeskModel_isWell_4 (by decide) rfl (fun b282 => ?_) (fun b282 => ?_)
        · refine mv_iconst (v := 0) d_TrustDeskModel_isWell_11 (by decide) ?_
          refine mv_iret d_TrustDeskModel_isWell_12 rfl (by decide) ?_
          refine mv_if_ne_f (tgt := 78) d_TrustDeskModel_readClause_74 (by decide) (by decide) ?_
          exact mv_vret d_TrustDeskModel_readClause_77 rfl ⟨_, I256, rfl, R258, (rW.of E269.1 (fun h9 => by exfalso; skip; have := R258.1 15 _ _ rfl; have := R258.1 16 _ _ rfl; have := R258.1 19 _ _ rfl; omega) (fun h9 => by exfalso; skip; have := R258.1 15 _ _ rfl; have := R258.1 16 _ _ rfl; have := R258.1 19 _ _ rfl; omega)), (rO.of E269 K270 (by have := yR.2 6 _ _ rfl 44; omega)), ⟨E269.2.1, fun w9 => by skip; have := E269.w2 w9; omega⟩, (fun w9 => by skip; omega), (fun _ h9 => by exfalso; skip; have := R258.1 15 _ _ rfl; have := R258.1 16 _ _ rfl; have := R258.1 19 _ _ rfl; omega), (by have := R258.1 15 _ _ rfl; have := R258.1 16 _ _ rfl; have := R258.1 19 _ _ rfl; omega), (by rw [show (p_cl pb pn pa (pc9, pN9, ps)).2 = s274 from (congrArg Prod.snd (p_cl_4 (yO.w.symm.trans yw) (Or.inl (pW1 (Im.o d33) (by omega))) (Or.inr ⟨(pW1 (Im.o d33) (by omega)), Im.o h250⟩))).trans (by show _ = _; (try dsimp only); (try (first | (simp only [e275]; done) | (simp only [e275]; first | exact p_sg_Z _ (by omega) | omega))))]; exact f260), (fun w9 => by skip; omega), (fun h9 => by exfalso; skip; have := R258.1 15 _ _ rfl; have := R258.1 16 _ _ rfl; have := R258.1 19 _ _ rfl; omega), K272⟩
        · exfalso
          have := R258.1 15 _ _ rfl; have := R258.1 16 _ _ rfl; have := R258.1 19 _ _ rfl; omega
  · refine mv_aload_n d_TrustDeskModel_readClause_12 rfl rfl ?_
    refine mv_ldcSw (id := 43) (tx := "mark") d_TrustDeskModel_readClause_13 (List.mem_of_getElem? (i := 33) rfl) ?_
    obtain ⟨_, b289, -⟩ := I9.1 _ _ t18
    refine mv_callV (kc' := 0) (ks' := 0) (As := [.ref 43]) (st9 := [.ref 43, .ref o0]) d_TrustDeskModel_readClause_16 lV_TrustDeskModel_244 b289 rfl (tc_TrustDeskModel_isWord_s1_43_x (d := (d + 21)) (x9 := x9) (o0 := o0) t18 R14 I9.start) rfl (Nat.le_of_ble_eq_true rfl) (Nat.le_of_ble_eq_true rfl) (Nat.le_of_ble_eq_true rfl) (hst := rfl) (fun b283r M284 n285 b283 => ?_)
    obtain ⟨T286, J287, v290, rfl, b291, b292, R293, f294, f295, f296⟩ := b283
    have I288 := I9.call J287 (tm_sub (by decide)) (Or.inl rfl)
    have t297 := J287.up t18
    replace f294 := Im.i f294
    replace f295 := Im.i f295
    replace f296 := Im.i f296
    have z298 := (rv_c I9 J287 (I9.up h_o0) (k := 15) rfl).trans z19
    have z299 := (rv_c I9 J287 (I9.up h_o0) (k := 16) rfl).trans z20
    have z300 := (rv_c I9 J287 (I9.up h_o0) (k := 17) rfl).trans z21
    have z301 := (rv_c I9 J287 (I9.up h_o0) (k := 19) rfl).trans z22
    have z302 := (rv_c I9 J287 (I9.up h_o0) (k := 22) rfl).trans z23
    have z303 := (rv_c I9 J287 (I9.up h_o0) (k := 24) rfl).trans z24
    have z304 := (ra_call I9 J287 (I9.up h_o0) (k := 5) rfl rfl rfl 44).trans z25
    have z305 := (ra_call I9 J287 (I9.up h_o0) (k := 6) rfl rfl rfl 44).trans z26
    have E306 : rE M0 M284 o0 0 0 := E27.same (rE_hv I9 J287 (I9.up h_o0) 15 19 (by decide)) (rE_ha I9 J287 (I9.up h_o0) (by decide))
    have K307 : rK M0 M284 o0 ((880 + ra M0 o0 6 44).toNat) := K28.same (sA_c I9 J287 (I9.up h_o0) (by decide +kernel))
    have K308 : nN M284 o0 := K29.same (sA_c I9 J287 (I9.up h_o0) (by decide +kernel)) (sF_c I9 J287 (I9.up h_o0) (by decide +kernel))
    have K309 : ∀ i : Nat, i ≠ 44 → ra M284 o0 6 i = ra M0 o0 6 i := (by have e9 := ((sA_c I9 J287 (I9.up h_o0) (by decide +kernel)) : sA [6] _ _ _) 6 rfl; rw [e9]; exact K30)
    have K310 : pN M284 o0 pn pN9 := K31.same (sA_c I9 J287 (I9.up h_o0) (by decide +kernel)) (sF_c I9 J287 (I9.up h_o0) (by decide +kernel))
    have Z9311 : pO M284 o0 pb pn pa ps := Z932.same (rE_hv I9 J287 (I9.up h_o0) 14 20 (by decide)) (rv_c I9 J287 (I9.up h_o0) (k := 23) rfl) (ra_call I9 J287 (I9.up h_o0) (k := 13) rfl rfl rfl)
    have d312 := Im.i (pO.w_24 Z932 (by have := R14.1 15 _ _ rfl; have := R14.1 16 _ _ rfl; have := R14.1 19 _ _ rfl; omega) (Im.o f295) (Im.o f296) (by have := R14.1 15 _ _ rfl; have := R14.1 16 _ _ rfl; have := R14.1 19 _ _ rfl; omega))
    clear z23 z24 z25 z26
    have := mz_hi v290
    refine mv_if_neZ (tgt := 40) (a := v290.toInt) d_TrustDeskModel_readClause_19 (by decide) rfl (fun b313 => ?_) (fun b313 => ?_)
    · refine mv_aload_n d_TrustDeskModel_readClause_40 rfl rfl ?_
      obtain ⟨a315, q314, t_a315⟩ := tm_atR I288 t297 (k := 6) rfl
      refine tr_getK q314 d_TrustDeskModel_readClause_41 f_TrustDeskModel_23_13 ?_
      refine mv_bipush (v := 44) d_TrustDeskModel_readClause_44 (by decide) ?_
      refine tr_ialdR (o := o0) (k := 6) I288 q314 t_a315 (by decide) d_TrustDeskModel_readClause_46 (by unfold vp_in; decide) (fun v316 e317 => ?_)
      have := R293.a (k := 6) rfl (44 : Int32).toNatClampNeg
      have : v316.toInt = ra M284 o0 6 44 := e317
      have : v316.toInt = _ := Eq.trans e317 z305
      refine mv_bipush (v := 12) d_TrustDeskModel_readClause_47 (by decide) ?_
      have := mz_hi v316
      refine mv_icmp_eqZ (tgt := 65) (a := v316.toInt) (b := 12) d_TrustDeskModel_readClause_49 (by decide) rfl (by decide) (fun b318 => ?_) (fun b318 => ?_)
      · have h319 : Im (12 ≤ pc9) := Im.i (by omega)
        refine mv_aload_n d_TrustDeskModel_readClause_65 rfl rfl ?_
        refine mv_iconst (v := 4) d_TrustDeskModel_readClause_66 (by decide) ?_
        obtain ⟨_, b326, -⟩ := I288.1 _ _ t297
        have : (4 : Int32).toInt = 4 := by decide
        refine mv_callV (kc' := 0) (ks' := 0) (As := [.int 4]) (st9 := [.int 4, .ref o0]) d_TrustDeskModel_readClause_67 lV_TrustDeskModel_240 b326 rfl (tc_TrustDeskModel_fails_x (d := (d + 25)) (x9 := x9) (o0 := o0) (x1 := 4) t297 R293 (by decide) Z9311 I288.start) rfl (Nat.le_of_ble_eq_true rfl) (Nat.le_of_ble_eq_true rfl) (Nat.le_of_ble_eq_true rfl) (hst := rfl) (fun b320r M321 n322 b320 => ?_)
        obtain ⟨T323, J324, rfl, R327, f328, f329⟩ := b320
        have I325 := I288.call J324 (tm_sub (by decide)) (Or.inl rfl)
        have t330 := J324.up t297
        have z331 := (rv_c I288 J324 (I288.up h_o0) (k := 15) rfl).trans z298
        have z332 := (rv_c I288 J324 (I288.up h_o0) (k := 16) rfl).trans z299
        have z333 := (rv_c I288 J324 (I288.up h_o0) (k := 17) rfl).trans z300
        have z334 := (rv_c I288 J324 (I288.up h_o0) (k := 22) rfl).trans z302
        have z335 := (rv_c I288 J324 (I288.up h_o0) (k := 24) rfl).trans z303
        have z336 := (ra_call I288 J324 (I288.up h_o0) (k := 5) rfl rfl rfl 44).trans z304
        have z337 := (ra_call I288 J324 (I288.up h_o0) (k := 6) rfl rfl rfl 44).trans z305
        have E338 : rE M0 M321 o0 0 0 := E306.fails (rE_hv I288 J324 (I288.up h_o0) 15 18 (by decide)) (rE_ha I288 J324 (I288.up h_o0) (by decide)) f328 0 0
        have K339 : rK M0 M321 o0 ((880 + ra M0 o0 6 44).toNat) := K307.same (sA_c I288 J324 (I288.up h_o0) (by decide +kernel))
        have K340 : nN M321 o0 := K308.same (sA_c I288 J324 (I288.up h_o0) (by decide +kernel)) (sF_c I288 J324 (I288.up h_o0) (by decide +kernel))
        have K341 : ∀ i : Nat, i ≠ 44 → ra M321 o0 6 i = ra M0 o0 6 i := (by have e9 := ((sA_c I288 J324 (I288.up h_o0) (by decide +kernel)) : sA [6] _ _ _) 6 rfl; rw [e9]; exact K309)
        have K342 : pN M321 o0 pn pN9 := K310.same (sA_c I288 J324 (I288.up h_o0) (by decide +kernel)) (sF_c I288 J324 (I288.up h_o0) (by decide +kernel))
        rw [show (4 : Int32).toInt = 4 from by decide] at f329
        obtain ⟨s343, e344⟩ : ∃ s9 : p_S, p_fl pb pn 4 ps = s9 := ⟨_, rfl⟩
        rw [e344] at f329
        have := f329.w
        clear z298 z299 z300 z302 z303 z304 z305
        have q345 := J324.keep t297 (by decide) q314
        have t346 := J324.up t_a315
        refine mv_aload_n d_TrustDeskModel_readClause_70 rfl rfl ?_
        obtain ⟨_, b347, -⟩ := I325.1 _ _ t330
        refine mv_callV (kc1 := 0) (ks1 := 0) (kc' := 0) (ks' := 0) (As := []) (st9 := [.ref o0]) d_TrustDeskModel_readClause_71 lV_TrustDeskModel_230 b347 rfl (mj_enter (by decide) (Nat.le_of_ble_eq_true rfl) ?_) rfl (Nat.le_of_ble_eq_true rfl) (Nat.le_of_ble_eq_true rfl) (Nat.le_of_ble_eq_true rfl) (hst := rfl) (fun _ _ _ h => h)
        refine mv_aload_n d_TrustDeskModel_isWell_0 rfl rfl ?_
        obtain ⟨v349, q348⟩ := tm_atI I325 t330 (k := 19) rfl
        refine tr_getK q348 d_TrustDeskModel_isWell_1 f_TrustDeskModel_224_13 ?_
        have := R327.f (k := 19) q348 rfl
        have := tm_rv q348
        refine mv_if_neZ (tgt := 11) (a := v349.toInt) d_TrustDeskModel_isWell_4 (by decide) rfl (fun b350 => ?_) (fun b350 => ?_)
        · refine mv_iconst (v := 0) d_TrustDeskModel_isWell_11 (by decide) ?_
          refine mv_iret d_TrustDeskModel_isWell_12 rfl (by decide) ?_
          refine mv_if_ne_f (tgt := 78) d_TrustDeskModel_readClause_74 (by decide) (by decide) ?_
          exact mv_vret d_TrustDeskModel_readClause_77 rfl ⟨_, I325, rfl, R327, (rW.of E338.1 (fun h9 => by exfalso; skip; have := R327.1 15 _ _ rfl; have := R327.1 16 _ _ rfl; have := R327.1 19 _ _ rfl; omega) (fun h9 => by exfalso; skip; have := R327.1 15 _ _ rfl; have := R327.1 16 _ _ rfl; have := R327.1 19 _ _ rfl; omega)), (rO.of E338 K339 (by have := yR.2 6 _ _ rfl 44; omega)), ⟨E338.2.1, fun w9 => by skip; have := E338.w2 w9; omega⟩, (fun w9 => by skip; omega), (fun _ h9 => by exfalso; skip; have := R327.1 15 _ _ rfl; have := R327.1 16 _ _ rfl; have := R327.1 19 _ _ rfl; omega), (by have := R327.1 15 _ _ rfl; have := R327.1 16 _ _ rfl; have := R327.1 19 _ _ rfl; omega), (by rw [show (p_cl pb pn pa (pc9, pN9, ps)).2 = s343 from (congrArg Prod.snd (p_cl_4 (yO.w.symm.trans yw) (Or.inr (Or.inl (pW1 (Im.o d312) (by omega)))) (Or.inl (Im.o h319)))).trans (by show _ = _; (try dsimp only); (try (first | (simp only [e344]; done) | (simp only [e344]; first | exact p_sg_Z _ (by omega) | omega))))]; exact f329), (fun w9 => by skip; omega), (fun h9 => by exfalso; skip; have := R327.1 15 _ _ rfl; have := R327.1 16 _ _ rfl; have := R327.1 19 _ _ rfl; omega), K341⟩
        · exfalso
          have := R327.1 15 _ _ rfl; have := R327.1 16 _ _ rfl; have := R327.1 19 _ _ rfl; omega
      · have h351 : Im (¬ 12 ≤ pc9) := Im.i (by omega)
        refine mv_iload_n d_TrustDeskModel_readClause_52 rfl rfl ?_
        have := mz_hi v11
        refine mv_if_eqZ (tgt := 70) (a := v11.toInt) d_TrustDeskModel_readClause_53 (by decide) rfl (fun b352 => ?_) (fun b352 => absurd b352 (by omega))
        refine mv_aload_n d_TrustDeskModel_readClause_70 rfl rfl ?_
        obtain ⟨_, b354, -⟩ := I288.1 _ _ t297
        refine mv_callV (kc1 := 0) (ks1 := 0) (kc' := 0) (ks' := 0) (As := []) (st9 := [.ref o0]) d_TrustDeskModel_readClause_71 lV_TrustDeskModel_230 b354 rfl (mj_enter (by decide) (Nat.le_of_ble_eq_true rfl) ?_) rfl (Nat.le_of_ble_eq_true rfl) (Nat.le_of_ble_eq_true rfl) (Nat.le_of_ble_eq_true rfl) (hst := rfl) (fun _ _ _ h => h)
        refine mv_aload_n d_TrustDeskModel_isWell_0 rfl rfl ?_
        obtain ⟨v356, q355⟩ := tm_atI I288 t297 (k := 19) rfl
        refine tr_getK q355 d_TrustDeskModel_isWell_1 f_TrustDeskModel_224_13 ?_
        have := R293.f (k := 19) q355 rfl
        have := (tm_rv q355).symm.trans z301
        have := tm_rv q355
        have := mz_hi v356
        refine mv_if_neZ (tgt := 11) (a := v356.toInt) d_TrustDeskModel_isWell_4 (by decide) rfl (fun b357 => ?_) (fun b357 => ?_)
        · refine mv_iconst (v := 0) d_TrustDeskModel_isWell_11 (by decide) ?_
          refine mv_iret d_TrustDeskModel_isWell_12 rfl (by decide) ?_
          refine mv_if_ne_f (tgt := 78) d_TrustDeskModel_readClause_74 (by decide) (by decide) ?_
          exact mv_vret d_TrustDeskModel_readClause_77 rfl ⟨_, I288, rfl, R293, (rW.of E306.1 (E306.s yS (by decide)) (fun w9 => by skip; exact rG.step yG yR E306 w9 K307 (by have := yR.2 6 _ _ rfl 44; omega) (by have := R293.1 15 _ _ rfl; have := R293.1 16 _ _ rfl; have := R293.1 19 _ _ rfl; omega) (by have := R293.1 15 _ _ rfl; have := R293.1 16 _ _ rfl; have := R293.1 19 _ _ rfl; omega) (fun h9 => by exfalso; have := R293.1 15 _ _ rfl; have := R293.1 16 _ _ rfl; have := R293.1 19 _ _ rfl; omega) (fun h9 => (by have := R293.1 15 _ _ rfl; have := R293.1 16 _ _ rfl; have := R293.1 19 _ _ rfl; omega)) (by have := R293.1 15 _ _ rfl; have := R293.1 16 _ _ rfl; have := R293.1 19 _ _ rfl; omega) K308)), (rO.of E306 K307 (by have := yR.2 6 _ _ rfl 44; omega)), ⟨E306.2.1, fun w9 => by skip; have := E306.w2 w9; omega⟩, (fun w9 => by skip; omega), (fun _ h9 => absurd h9 (by have := R293.1 15 _ _ rfl; have := R293.1 16 _ _ rfl; have := R293.1 19 _ _ rfl; omega)), (by have := R293.1 15 _ _ rfl; have := R293.1 16 _ _ rfl; have := R293.1 19 _ _ rfl; omega), (by rw [show (p_cl pb pn pa (pc9, pN9, ps)).2 = ps from (congrArg Prod.snd (p_cl_nz (by omega))).trans (by show _ = _; (try dsimp only); (try (first | (simp only [eq_self]; done) | (simp only [eq_self]; first | exact p_sg_Z _ (by omega) | omega))))]; exact Z9311), (fun w9 => by skip; omega), (fun h9 => by exfalso; skip; have := R293.1 15 _ _ rfl; have := R293.1 16 _ _ rfl; have := R293.1 19 _ _ rfl; omega), K309⟩
        · refine mv_iconst (v := 1) d_TrustDeskModel_isWell_7 (by decide) ?_
          refine mv_goto (tgt := 12) d_TrustDeskModel_isWell_8 (by decide) ?_
          refine mv_iret d_TrustDeskModel_isWell_12 rfl (by decide) ?_
          refine mv_if_ne_t (tgt := 78) d_TrustDeskModel_readClause_74 (by decide) (by decide) ?_
          refine mv_aload_n d_TrustDeskModel_readClause_78 rfl rfl ?_
          refine mv_ldcSw (id := 43) (tx := "mark") d_TrustDeskModel_readClause_79 (List.mem_of_getElem? (i := 33) rfl) ?_
          obtain ⟨_, b364, -⟩ := I288.1 _ _ t297
          refine mv_callV (kc' := 0) (ks' := 0) (As := [.ref 43]) (st9 := [.ref 43, .ref o0]) d_TrustDeskModel_readClause_82 lV_TrustDeskModel_244 b364 rfl (tc_TrustDeskModel_isWord_s1_43_x (d := (d + 21)) (x9 := x9) (o0 := o0) t297 R293 I288.start) rfl (Nat.le_of_ble_eq_true rfl) (Nat.le_of_ble_eq_true rfl) (Nat.le_of_ble_eq_true rfl) (hst := rfl) (fun b358r M359 n360 b358 => ?_)
          obtain ⟨T361, J362, v365, rfl, b366, b367, R368, f369, f370, f371⟩ := b358
          have I363 := I288.call J362 (tm_sub (by decide)) (Or.inl rfl)
          have t372 := J362.up t297
          replace f369 := Im.i f369
          replace f370 := Im.i f370
          replace f371 := Im.i f371
          have z373 := (rv_c I288 J362 (I288.up h_o0) (k := 15) rfl).trans z298
          have z374 := (rv_c I288 J362 (I288.up h_o0) (k := 16) rfl).trans z299
          have z375 := (rv_c I288 J362 (I288.up h_o0) (k := 17) rfl).trans z300
          have z376 := (rv_c I288 J362 (I288.up h_o0) (k := 19) rfl).trans z301
          have z377 := (rv_c I288 J362 (I288.up h_o0) (k := 22) rfl).trans z302
          have z378 := (rv_c I288 J362 (I288.up h_o0) (k := 24) rfl).trans z303
          have z379 := (ra_call I288 J362 (I288.up h_o0) (k := 5) rfl rfl rfl 44).trans z304
          have z380 := (ra_call I288 J362 (I288.up h_o0) (k := 6) rfl rfl rfl 44).trans z305
          have E381 : rE M0 M359 o0 0 0 := E306.same (rE_hv I288 J362 (I288.up h_o0) 15 19 (by decide)) (rE_ha I288 J362 (I288.up h_o0) (by decide))
          have K382 : rK M0 M359 o0 ((880 + ra M0 o0 6 44).toNat) := K307.same (sA_c I288 J362 (I288.up h_o0) (by decide +kernel))
          have K383 : nN M359 o0 := K308.same (sA_c I288 J362 (I288.up h_o0) (by decide +kernel)) (sF_c I288 J362 (I288.up h_o0) (by decide +kernel))
          have K384 : ∀ i : Nat, i ≠ 44 → ra M359 o0 6 i = ra M0 o0 6 i := (by have e9 := ((sA_c I288 J362 (I288.up h_o0) (by decide +kernel)) : sA [6] _ _ _) 6 rfl; rw [e9]; exact K309)
          have K385 : pN M359 o0 pn pN9 := K310.same (sA_c I288 J362 (I288.up h_o0) (by decide +kernel)) (sF_c I288 J362 (I288.up h_o0) (by decide +kernel))
          have Z9386 : pO M359 o0 pb pn pa ps := Z9311.same (rE_hv I288 J362 (I288.up h_o0) 14 20 (by decide)) (rv_c I288 J362 (I288.up h_o0) (k := 23) rfl) (ra_call I288 J362 (I288.up h_o0) (k := 13) rfl rfl rfl)
          have d387 := Im.i (pO.w_24 Z9311 (by have := R293.1 15 _ _ rfl; have := R293.1 16 _ _ rfl; have := R293.1 19 _ _ rfl; omega) (Im.o f370) (Im.o f371) (by have := R293.1 15 _ _ rfl; have := R293.1 16 _ _ rfl; have := R293.1 19 _ _ rfl; omega))
          clear z302 z303 z304 z305
          have q388 := J362.keep t297 (by decide) q314
          have t389 := J362.up t_a315
          have q390 := J362.keep t297 (by decide) q355
          refine mv_istore_n (lv' := [(2, .int v365), (1, .int v11), (0, .ref o0)]) d_TrustDeskModel_readClause_85 rfl (by decide) rfl ?_
          refine mv_aload_n d_TrustDeskModel_readClause_86 rfl rfl ?_
          refine mv_iload_n d_TrustDeskModel_readClause_87 rfl rfl ?_
          have := mz_hi v11
          refine mv_if_eqZ (tgt := 96) (a := v11.toInt) d_TrustDeskModel_readClause_88 (by decide) rfl (fun b391 => ?_) (fun b391 => absurd b391 (by omega))
          refine mv_iload_n d_TrustDeskModel_readClause_96 rfl rfl ?_
          have := mz_hi v365
          refine mv_if_eqZ (tgt := 105) (a := v365.toInt) d_TrustDeskModel_readClause_97 (by decide) rfl (fun b392 => ?_) (fun b392 => ?_)
          · refine mv_bipush (v := 9) d_TrustDeskModel_readClause_105 (by decide) ?_
            obtain ⟨_, b399, -⟩ := I363.1 _ _ t372
            have : (9 : Int32).toInt = 9 := by decide
            refine mv_callV (kc' := 0) (ks' := 0) (As := [.int 9]) (st9 := [.int 9, .ref o0]) d_TrustDeskModel_readClause_107 lV_TrustDeskModel_342 b399 rfl (tc_TrustDeskModel_begin_a (d := (d + 23)) (x9 := x9) (o0 := o0) (x1 := 9) t372 R368 E381.1 (E381.s yS (by decide)) (by have := R368.1 15 _ _ rfl; have := R368.1 16 _ _ rfl; have := R368.1 19 _ _ rfl; omega) (by have := f294.o (by omega); omega) (by have := R368.1 15 _ _ rfl; have := R368.1 16 _ _ rfl; have := R368.1 19 _ _ rfl; omega) Z9386 I363.start) rfl (Nat.le_of_ble_eq_true rfl) (Nat.le_of_ble_eq_true rfl) (Nat.le_of_ble_eq_true rfl) (hst := rfl) (fun b393r M394 n395 b393 => ?_)
            obtain ⟨T396, J397, v400, rfl, R401, f402, f403, f404, f405, f406, f407, f408, f409⟩ := b393
            have I398 := I363.call J397 (tm_sub (by decide)) (Or.inl rfl)
            have t410 := J397.up t372
            have := f402.2.1
            have f411 := Im.i f402.w.2
            have f412 := Im.i f402.w2
            have z413 := (rv_c I363 J397 (I363.up h_o0) (k := 19) rfl).trans z376
            have z414 := (rv_c I363 J397 (I363.up h_o0) (k := 22) rfl).trans z377
            have z415 := (rv_c I363 J397 (I363.up h_o0) (k := 24) rfl).trans z378
            have z416 := (ra_call I363 J397 (I363.up h_o0) (k := 5) rfl rfl rfl 44).trans z379
            have E417 : rE M0 M394 o0 0 1 := E381.trans f402 (by decide) (yR.2 5 _ _ rfl 44).1 (by decide) (by decide)
            have h418 : (880 + ra M359 o0 6 44).toNat = (880 + ra M0 o0 6 44).toNat := by omega
            rw [h418] at f405 f406 f407
            have K419 : rK M0 M394 o0 ((880 + ra M0 o0 6 44).toNat) := K382.trans f407
            have K420 : nN M394 o0 := K383.same (sA_c I363 J397 (I363.up h_o0) (by decide +kernel)) (sF_c I363 J397 (I363.up h_o0) (by decide +kernel))
            have K421 : ∀ i : Nat, i ≠ 44 → ra M394 o0 6 i = ra M0 o0 6 i := (fun i h9 => (f409 i h9).trans (K384 i h9))
            have K422 : pN M394 o0 pn pN9 := K385.same (sA_c I363 J397 (I363.up h_o0) (by decide +kernel)) (sF_c I363 J397 (I363.up h_o0) (by decide +kernel))
            obtain ⟨s423, e424⟩ : ∃ s9 : p_S, p_nx ps = s9 := ⟨_, rfl⟩
            rw [e424] at f408
            have := f408.w
            clear z377 z378
            have q425 := J397.keep t372 (by decide) q388
            have t426 := J397.up t389
            have q427 := J397.keep t372 (by decide) q390
            refine mv_istore_n (lv' := [(3, .int v400), (2, .int v365), (1, .int v11), (0, .ref o0)]) d_TrustDeskModel_readClause_110 rfl (by decide) rfl ?_
            refine mv_iload_n d_TrustDeskModel_readClause_111 rfl rfl ?_
            have := mz_hi v11
            refine mv_if_eqZ (tgt := 123) (a := v11.toInt) d_TrustDeskModel_readClause_112 (by decide) rfl (fun b428 => ?_) (fun b428 => absurd b428 (by omega))
            refine mv_iload_n d_TrustDeskModel_readClause_123 rfl rfl ?_
            have := mz_hi v365
            refine mv_if_eqZ (tgt := 135) (a := v365.toInt) d_TrustDeskModel_readClause_124 (by decide) rfl (fun b429 => ?_) (fun b429 => absurd b429 (by omega))
            refine mv_aload_n d_TrustDeskModel_readClause_135 rfl rfl ?_
            obtain ⟨a431, q430, t_a431⟩ := tm_atR I398 t410 (k := 8) rfl
            refine tr_getK q430 d_TrustDeskModel_readClause_136 f_TrustDeskModel_29_13 ?_
            refine mv_iload_n d_TrustDeskModel_readClause_139 rfl rfl ?_
            refine mv_aload_n d_TrustDeskModel_readClause_140 rfl rfl ?_
            refine mv_iconst (v := 1) d_TrustDeskModel_readClause_141 (by decide) ?_
            refine mv_bipush (v := 7) d_TrustDeskModel_readClause_142 (by decide) ?_
            obtain ⟨_, b438, -⟩ := I398.1 _ _ t410
            have : (1 : Int32).toInt = 1 := by decide
            have : (7 : Int32).toInt = 7 := by decide
            refine mv_callV (kc' := 0) (ks' := 0) (As := [.int 1, .int 7]) (st9 := [.int 7, .int 1, .ref o0, .int v400, .ref a431]) d_TrustDeskModel_readClause_144 lV_TrustDeskModel_317 b438 rfl (tc_TrustDeskModel_number_x (d := (d + 23)) (x9 := x9) (o0 := o0) (x1 := 1) (x2 := 7) t410 R401 E417.1 (E417.s yS (by decide)) f408 I398.start) rfl (Nat.le_of_ble_eq_true rfl) (Nat.le_of_ble_eq_true rfl) (Nat.le_of_ble_eq_true rfl) (hst := rfl) (fun b432r M433 n434 b432 => ?_)
            obtain ⟨T435, J436, v439, rfl, R440, f441, f442, f443, f444⟩ := b432
            have I437 := I398.call J436 (tm_sub (by decide)) (Or.inl rfl)
            have t445 := J436.up t410
            have t446 := J436.up t_a431
            have := f441.2.1
            have f447 := Im.i f441.w.2
            have f448 := Im.i f441.w2
            replace f444 := Im.i f444
            have z449 := (rv_c I398 J436 (I398.up h_o0) (k := 22) rfl).trans z414
            have z450 := (rv_c I398 J436 (I398.up h_o0) (k := 24) rfl).trans z415
            have z451 := (ra_call I398 J436 (I398.up h_o0) (k := 5) rfl rfl rfl 44).trans z416
            have z452 := (ra_call I398 J436 (I398.up h_o0) (k := 6) rfl rfl rfl 44)
            have z453 := (ra_call I398 J436 (I398.up h_o0) (k := 7) rfl rfl rfl ((880 + ra M0 o0 6 44).toNat))
            have z454 := (ra_call I398 J436 (I398.up h_o0) (k := 10) rfl rfl rfl ((880 + ra M0 o0 6 44).toNat))
            have E455 : rE M0 M433 o0 0 2 := E417.trans f441 (by decide) (yR.2 5 _ _ rfl 44).1 (by decide) (by decide)
            have K456 : rK M0 M433 o0 ((880 + ra M0 o0 6 44).toNat) := K419.same (sA_c I398 J436 (I398.up h_o0) (by decide +kernel))
            have K457 : nN M433 o0 := K420.same (sA_c I398 J436 (I398.up h_o0) (by decide +kernel)) (sF_c I398 J436 (I398.up h_o0) (by decide +kernel))
            have K458 : ∀ i : Nat, i ≠ 44 → ra M433 o0 6 i = ra M0 o0 6 i := (by have e9 := ((sA_c I398 J436 (I398.up h_o0) (by decide +kernel)) : sA [6] _ _ _) 6 rfl; rw [e9]; exact K421)
            have K459 : pN M433 o0 pn pN9 := K422.same (sA_c I398 J436 (I398.up h_o0) (by decide +kernel)) (sF_c I398 J436 (I398.up h_o0) (by decide +kernel))
            rw [show (1 : Int32).toInt = 1 from by decide] at f443
            rw [show (7 : Int32).toInt = 7 from by decide] at f443
            obtain ⟨s460, e461⟩ : ∃ s9 : p_S, p_num pb pn 1 7 s423 = s9 := ⟨_, rfl⟩
            rw [e461] at f443
            have := f443.w
            clear z414 z415 z416
            have q462 := J436.keep t410 (by decide) q425
            have t463 := J436.up t426
            have q464 := J436.keep t410 (by decide) q430
            refine tr_iastR (k := 8) I437 R440 (I437.up h_o0) q464 t446 (by decide) (by decide) (fun lo hi h => by cases h; have := R440.1 15 _ _ rfl; have := R440.1 16 _ _ rfl; have := R440.1 19 _ _ rfl; exact ⟨by show ((-1) : Int) ≤ v439.toInt; omega, by show v439.toInt ≤ (720 : Int); omega⟩) (Or.inl (by decide)) d_TrustDeskModel_readClause_147 (vp_in_iff.mpr (by have := R440.1 15 _ _ rfl; have := R440.1 16 _ _ rfl; have := R440.1 19 _ _ rfl; omega)) (fun M465 I466 K467 R468 E469 A470 V471 => ?_)
            have z472 := (V471 15)
            have z473 := (V471 16)
            have z474 := (V471 17)
            have z475 := (V471 19)
            have z476 := (V471 22).trans z449
            have z477 := (V471 24).trans z450
            have z478 := (A470 5 (by decide) rfl 44).trans z451
            have z479 := (A470 6 (by decide) rfl 44).trans z452
            have z480 := (A470 7 (by decide) rfl ((880 + ra M0 o0 6 44).toNat)).trans z453
            have z481 := (A470 10 (by decide) rfl ((880 + ra M0 o0 6 44).toNat)).trans z454
            have E482 : rE M0 M465 o0 0 2 := E455.same (fun k _ _ => V471 k) (fun k h1 h2 => A470 k (by omega) (by rcases (show k = 4 ∨ k = 5 by omega) with rfl | rfl <;> rfl))
            have h483 : (880 + ra M0 o0 6 44).toNat = v400.toNatClampNeg := by have := mz_nat9 (i := v400) (by have := R440.1 15 _ _ rfl; have := R440.1 16 _ _ rfl; have := R440.1 19 _ _ rfl; omega); have := R440.1 15 _ _ rfl; have := R440.1 16 _ _ rfl; have := R440.1 19 _ _ rfl; omega
            have z484 : ra M465 o0 8 ((880 + ra M0 o0 6 44).toNat) = v439.toInt := (E469 _).trans (if_pos h483)
            have K485 : rK M0 M465 o0 ((880 + ra M0 o0 6 44).toNat) := K456.st A470 E469 (by have := mz_nat9 (i := v400) (by have := R440.1 15 _ _ rfl; have := R440.1 16 _ _ rfl; have := R440.1 19 _ _ rfl; omega); have := R440.1 15 _ _ rfl; have := R440.1 16 _ _ rfl; have := R440.1 19 _ _ rfl; omega)
            have K486 : nN M465 o0 := K457.same (sA_a A470 (by decide +kernel)) (sF_a V471)
            have K487 : ∀ i : Nat, i ≠ 44 → ra M465 o0 6 i = ra M0 o0 6 i := (by have e9 := ((sA_a A470 (by decide +kernel)) : sA [6] _ _ _) 6 rfl; rw [e9]; exact K458)
            have K488 : pN M465 o0 pn pN9 := K459.same (sA_a A470 (by decide +kernel)) (sF_a V471)
            have Z9489 : pO M465 o0 pb pn pa s460 := f443.same (fun k _ _ => V471 k) (V471 23) (A470 13 (by decide) rfl)
            clear z449 z450 z451 z452 z453 z454
            refine mv_aload_n d_TrustDeskModel_readClause_148 rfl rfl ?_
            obtain ⟨a491, q490, t_a491⟩ := tm_atR I466 t445 (k := 9) rfl
            refine tr_getK q490 d_TrustDeskModel_readClause_149 f_TrustDeskModel_32_13 ?_
            refine mv_iload_n d_TrustDeskModel_readClause_152 rfl rfl ?_
            refine mv_aload_n d_TrustDeskModel_readClause_153 rfl rfl ?_
            refine mv_iconst (v := 1) d_TrustDeskModel_readClause_154 (by decide) ?_
            refine mv_aload_n d_TrustDeskModel_readClause_155 rfl rfl ?_
            refine tr_getK (k := 8) (K467 _ 13 8 _ q464) d_TrustDeskModel_readClause_156 f_TrustDeskModel_29_13 ?_
            refine mv_iload_n d_TrustDeskModel_readClause_159 rfl rfl ?_
            refine tr_ialdR (o := o0) (k := 8) I466 (K467 _ 13 8 _ q464) t446 (by decide) d_TrustDeskModel_readClause_160 (vp_in_iff.mpr (by have := R468.1 15 _ _ rfl; have := R468.1 16 _ _ rfl; have := R468.1 19 _ _ rfl; omega)) (fun v492 e493 => ?_)
            have := R468.a (k := 8) rfl (v400 : Int32).toNatClampNeg
            have h494 : (880 + ra M0 o0 6 44).toNat = v400.toNatClampNeg := by have := mz_nat9 (i := v400) (by have := R468.1 15 _ _ rfl; have := R468.1 16 _ _ rfl; have := R468.1 19 _ _ rfl; omega); have := R468.1 15 _ _ rfl; have := R468.1 16 _ _ rfl; have := R468.1 19 _ _ rfl; omega
            have z495 : v492.toInt = ra M465 o0 8 ((880 + ra M0 o0 6 44).toNat) := by rw [e493, h494]
            have : v492.toInt = _ := Eq.trans z495 z484
            obtain ⟨_, b502, -⟩ := I466.1 _ _ t445
            have : (1 : Int32).toInt = 1 := by decide
            refine mv_callV (kc' := 0) (ks' := 0) (As := [.int 1, .int v492]) (st9 := [.int v492, .int 1, .ref o0, .int v400, .ref a491]) d_TrustDeskModel_readClause_161 lV_TrustDeskModel_317 b502 rfl (tc_TrustDeskModel_number_x (d := (d + 23)) (x9 := x9) (o0 := o0) (x1 := 1) (x2 := v492) t445 R468 E482.1 (E482.s yS (by decide)) Z9489 I466.start) rfl (Nat.le_of_ble_eq_true rfl) (Nat.le_of_ble_eq_true rfl) (Nat.le_of_ble_eq_true rfl) (hst := rfl) (fun b496r M497 n498 b496 => ?_)
            obtain ⟨T499, J500, v503, rfl, R504, f505, f506, f507, f508⟩ := b496
            have I501 := I466.call J500 (tm_sub (by decide)) (Or.inl rfl)
            have t509 := J500.up t445
            have t510 := J500.up t_a491
            have := f505.2.1
            have f511 := Im.i f505.w.2
            have f512 := Im.i f505.w2
            replace f508 := Im.i f508
            have z513 := (rv_c I466 J500 (I466.up h_o0) (k := 22) rfl).trans z476
            have z514 := (rv_c I466 J500 (I466.up h_o0) (k := 24) rfl).trans z477
            have z515 := (ra_call I466 J500 (I466.up h_o0) (k := 5) rfl rfl rfl 44).trans z478
            have z516 := (ra_call I466 J500 (I466.up h_o0) (k := 6) rfl rfl rfl 44).trans z479
            have z517 := (ra_call I466 J500 (I466.up h_o0) (k := 7) rfl rfl rfl ((880 + ra M0 o0 6 44).toNat)).trans z480
            have z518 := (ra_call I466 J500 (I466.up h_o0) (k := 10) rfl rfl rfl ((880 + ra M0 o0 6 44).toNat)).trans z481
            have z519 := (ra_call I466 J500 (I466.up h_o0) (k := 8) rfl rfl rfl ((880 + ra M0 o0 6 44).toNat)).trans z484
            have E520 : rE M0 M497 o0 0 3 := E482.trans f505 (by decide) (yR.2 5 _ _ rfl 44).1 (by decide) (by decide)
            have K521 : rK M0 M497 o0 ((880 + ra M0 o0 6 44).toNat) := K485.same (sA_c I466 J500 (I466.up h_o0) (by decide +kernel))
            have K522 : nN M497 o0 := K486.same (sA_c I466 J500 (I466.up h_o0) (by decide +kernel)) (sF_c I466 J500 (I466.up h_o0) (by decide +kernel))
            have K523 : ∀ i : Nat, i ≠ 44 → ra M497 o0 6 i = ra M0 o0 6 i := (by have e9 := ((sA_c I466 J500 (I466.up h_o0) (by decide +kernel)) : sA [6] _ _ _) 6 rfl; rw [e9]; exact K487)
            have K524 : pN M497 o0 pn pN9 := K488.same (sA_c I466 J500 (I466.up h_o0) (by decide +kernel)) (sF_c I466 J500 (I466.up h_o0) (by decide +kernel))
            rw [show (1 : Int32).toInt = 1 from by decide] at f507
            obtain ⟨s525, e526⟩ : ∃ s9 : p_S, p_num pb pn 1 v492.toInt s460 = s9 := ⟨_, rfl⟩
            rw [e526] at f507
            have := f507.w
            have q527 : v492.toInt = v439.toInt := by omega
            have q528 := Im.i (fun h9 : s460.1 = 0 => q527.trans (f444.o (f443.w.trans h9)))
            clear z476 z477 z478 z479 z480 z481 z484
            have q529 := J500.keep t445 (by decide) (K467 _ 13 6 _ q462)
            have t530 := J500.up t463
            have q531 := J500.keep t445 (by decide) (K467 _ 13 8 _ q464)
            have t532 := J500.up t446
            have q533 := J500.keep t445 (by decide) q490
            refine tr_iastR (k := 9) I501 R504 (I501.up h_o0) q533 t510 (by decide) (by decide) (fun lo hi h => by cases h) (Or.inl (by decide)) d_TrustDeskModel_readClause_164 (vp_in_iff.mpr (by have := R504.1 15 _ _ rfl; have := R504.1 16 _ _ rfl; have := R504.1 19 _ _ rfl; omega)) (fun M534 I535 K536 R537 E538 A539 V540 => ?_)
            have z541 := (V540 15)
            have z542 := (V540 16)
            have z543 := (V540 17)
            have z544 := (V540 19)
            have z545 := (V540 22).trans z513
            have z546 := (V540 24).trans z514
            have z547 := (A539 5 (by decide) rfl 44).trans z515
            have z548 := (A539 6 (by decide) rfl 44).trans z516
            have z549 := (A539 7 (by decide) rfl ((880 + ra M0 o0 6 44).toNat)).trans z517
            have z550 := (A539 10 (by decide) rfl ((880 + ra M0 o0 6 44).toNat)).trans z518
            have z551 := (A539 8 (by decide) rfl ((880 + ra M0 o0 6 44).toNat)).trans z519
            have E552 : rE M0 M534 o0 0 3 := E520.same (fun k _ _ => V540 k) (fun k h1 h2 => A539 k (by omega) (by rcases (show k = 4 ∨ k = 5 by omega) with rfl | rfl <;> rfl))
            have K553 : rK M0 M534 o0 ((880 + ra M0 o0 6 44).toNat) := K521.same (sA_a A539 (by decide +kernel))
            have K554 : nN M534 o0 := K522.same (sA_a A539 (by decide +kernel)) (sF_a V540)
            have K555 : ∀ i : Nat, i ≠ 44 → ra M534 o0 6 i = ra M0 o0 6 i := (by have e9 := ((sA_a A539 (by decide +kernel)) : sA [6] _ _ _) 6 rfl; rw [e9]; exact K523)
            have K556 : pN M534 o0 pn pN9 := K524.same (sA_a A539 (by decide +kernel)) (sF_a V540)
            have Z9557 : pO M534 o0 pb pn pa s525 := f507.same (fun k _ _ => V540 k) (V540 23) (A539 13 (by decide) rfl)
            clear z513 z514 z515 z516 z517 z518 z519
            refine mv_aload_n d_TrustDeskModel_readClause_165 rfl rfl ?_
            refine mv_bipush (v := 59) d_TrustDeskModel_readClause_166 (by decide) ?_
            obtain ⟨_, b564, -⟩ := I535.1 _ _ t509
            have : (59 : Int32).toInt = 59 := by decide
            refine mv_callV (kc' := 0) (ks' := 0) (As := [.int 59]) (st9 := [.int 59, .ref o0]) d_TrustDeskModel_readClause_168 lV_TrustDeskModel_291 b564 rfl (tc_TrustDeskModel_wantSign_x (d := (d + 23)) (x9 := x9) (o0 := o0) (x1 := 59) t509 R537 E552.1 (E552.s yS (by decide)) (by decide) Z9557 I535.start) rfl (Nat.le_of_ble_eq_true rfl) (Nat.le_of_ble_eq_true rfl) (Nat.le_of_ble_eq_true rfl) (hst := rfl) (fun b558r M559 n560 b558 => ?_)
            obtain ⟨T561, J562, rfl, R565, f566, f567⟩ := b558
            have I563 := I535.call J562 (tm_sub (by decide)) (Or.inl rfl)
            have t568 := J562.up t509
            have := f566.2.1
            have f569 := Im.i f566.w.2
            have f570 := Im.i f566.w2
            have z571 := (rv_c I535 J562 (I535.up h_o0) (k := 22) rfl).trans z545
            have z572 := (rv_c I535 J562 (I535.up h_o0) (k := 24) rfl).trans z546
            have z573 := (ra_call I535 J562 (I535.up h_o0) (k := 5) rfl rfl rfl 44).trans z547
            have z574 := (ra_call I535 J562 (I535.up h_o0) (k := 6) rfl rfl rfl 44).trans z548
            have z575 := (ra_call I535 J562 (I535.up h_o0) (k := 7) rfl rfl rfl ((880 + ra M0 o0 6 44).toNat)).trans z549
            have z576 := (ra_call I535 J562 (I535.up h_o0) (k := 10) rfl rfl rfl ((880 + ra M0 o0 6 44).toNat)).trans z550
            have z577 := (ra_call I535 J562 (I535.up h_o0) (k := 8) rfl rfl rfl ((880 + ra M0 o0 6 44).toNat)).trans z551
            have E578 : rE M0 M559 o0 0 4 := E552.trans f566 (by decide) (yR.2 5 _ _ rfl 44).1 (by decide) (by decide)
            have K579 : rK M0 M559 o0 ((880 + ra M0 o0 6 44).toNat) := K553.same (sA_c I535 J562 (I535.up h_o0) (by decide +kernel))
            have K580 : nN M559 o0 := K554.same (sA_c I535 J562 (I535.up h_o0) (by decide +kernel)) (sF_c I535 J562 (I535.up h_o0) (by decide +kernel))
            have K581 : ∀ i : Nat, i ≠ 44 → ra M559 o0 6 i = ra M0 o0 6 i := (by have e9 := ((sA_c I535 J562 (I535.up h_o0) (by decide +kernel)) : sA [6] _ _ _) 6 rfl; rw [e9]; exact K555)
            have K582 : pN M559 o0 pn pN9 := K556.same (sA_c I535 J562 (I535.up h_o0) (by decide +kernel)) (sF_c I535 J562 (I535.up h_o0) (by decide +kernel))
            rw [show (59 : Int32).toInt = 59 from by decide] at f567
            obtain ⟨s583, e584⟩ : ∃ s9 : p_S, p_sg pb pn 59 s525 = s9 := ⟨_, rfl⟩
            rw [e584] at f567
            have := f567.w
            clear z545 z546 z547 z548 z549 z550 z551
            have q585 := J562.keep t509 (by decide) (K536 _ 13 6 _ q529)
            have t586 := J562.up t530
            have q587 := J562.keep t509 (by decide) (K536 _ 13 8 _ q531)
            have t588 := J562.up t532
            have q589 := J562.keep t509 (by decide) (K536 _ 13 9 _ q533)
            have t590 := J562.up t510
            refine mv_aload_n d_TrustDeskModel_readClause_171 rfl rfl ?_
            obtain ⟨a592, q591, t_a592⟩ := tm_atR I563 t568 (k := 12) rfl
            refine tr_getK q591 d_TrustDeskModel_readClause_172 f_TrustDeskModel_41_13 ?_
            refine mv_iload_n d_TrustDeskModel_readClause_175 rfl rfl ?_
            refine mv_aload_n d_TrustDeskModel_readClause_176 rfl rfl ?_
            obtain ⟨a594, q593, t_a594⟩ := tm_atR I563 t568 (k := 5) rfl
            refine tr_getK q593 d_TrustDeskModel_readClause_177 f_TrustDeskModel_20_13 ?_
            refine mv_bipush (v := 44) d_TrustDeskModel_readClause_180 (by decide) ?_
            refine tr_ialdR (o := o0) (k := 5) I563 q593 t_a594 (by decide) d_TrustDeskModel_readClause_182 (by unfold vp_in; decide) (fun v595 e596 => ?_)
            have := R565.a (k := 5) rfl (44 : Int32).toNatClampNeg
            have : v595.toInt = ra M559 o0 5 44 := e596
            have : v595.toInt = _ := Eq.trans e596 z573
            refine tr_iastR (k := 12) I563 R565 (I563.up h_o0) q591 t_a592 (by decide) (by decide) (fun lo hi h => by cases h; have := R565.1 15 _ _ rfl; have := R565.1 16 _ _ rfl; have := R565.1 19 _ _ rfl; exact ⟨by show (0 : Int) ≤ v595.toInt; omega, by show v595.toInt ≤ (400 : Int); omega⟩) (Or.inl (by decide)) d_TrustDeskModel_readClause_183 (vp_in_iff.mpr (by have := R565.1 15 _ _ rfl; have := R565.1 16 _ _ rfl; have := R565.1 19 _ _ rfl; omega)) (fun M597 I598 K599 R600 E601 A602 V603 => ?_)
            have z604 := (V603 15)
            have z605 := (V603 16)
            have z606 := (V603 17)
            have z607 := (V603 19)
            have z608 := (V603 22).trans z571
            have z609 := (V603 24).trans z572
            have z610 := (A602 5 (by decide) rfl 44).trans z573
            have z611 := (A602 6 (by decide) rfl 44).trans z574
            have z612 := (A602 7 (by decide) rfl ((880 + ra M0 o0 6 44).toNat)).trans z575
            have z613 := (A602 10 (by decide) rfl ((880 + ra M0 o0 6 44).toNat)).trans z576
            have z614 := (A602 8 (by decide) rfl ((880 + ra M0 o0 6 44).toNat)).trans z577
            have E615 : rE M0 M597 o0 0 4 := E578.same (fun k _ _ => V603 k) (fun k h1 h2 => A602 k (by omega) (by rcases (show k = 4 ∨ k = 5 by omega) with rfl | rfl <;> rfl))
            have h616 : (880 + ra M0 o0 6 44).toNat = v400.toNatClampNeg := by have := mz_nat9 (i := v400) (by have := R565.1 15 _ _ rfl; have := R565.1 16 _ _ rfl; have := R565.1 19 _ _ rfl; omega); have := R565.1 15 _ _ rfl; have := R565.1 16 _ _ rfl; have := R565.1 19 _ _ rfl; omega
            have z617 : ra M597 o0 12 ((880 + ra M0 o0 6 44).toNat) = v595.toInt := (E601 _).trans (if_pos h616)
            have K618 : rK M0 M597 o0 ((880 + ra M0 o0 6 44).toNat) := K579.st A602 E601 (by have := mz_nat9 (i := v400) (by have := R565.1 15 _ _ rfl; have := R565.1 16 _ _ rfl; have := R565.1 19 _ _ rfl; omega); have := R565.1 15 _ _ rfl; have := R565.1 16 _ _ rfl; have := R565.1 19 _ _ rfl; omega)
            have K619 : nN M597 o0 := K580.same (sA_a A602 (by decide +kernel)) (sF_a V603)
            have K620 : ∀ i : Nat, i ≠ 44 → ra M597 o0 6 i = ra M0 o0 6 i := (by have e9 := ((sA_a A602 (by decide +kernel)) : sA [6] _ _ _) 6 rfl; rw [e9]; exact K581)
            have K621 : pN M597 o0 pn pN9 := K582.same (sA_a A602 (by decide +kernel)) (sF_a V603)
            have Z9622 : pO M597 o0 pb pn pa s583 := f567.same (fun k _ _ => V603 k) (V603 23) (A602 13 (by decide) rfl)
            clear z571 z572 z573 z574 z575 z576 z577
            exact mv_vret d_TrustDeskModel_readClause_184 rfl ⟨_, I598, rfl, R600, (rW.of E615.1 (E615.s yS (by decide)) (fun w9 => by have u91 : rv M559 o0 19 = 0 := (by omega); have := f569.o u91; have := f570.o u91; have u92 : rv M497 o0 19 = 0 := (by omega); have := f511.o u92; have := f512.o u92; have := f508.o u92; have u93 : rv M433 o0 19 = 0 := (by omega); have := f447.o u93; have := f448.o u93; have := f444.o u93; have u94 : rv M394 o0 19 = 0 := (by omega); have := f411.o u94; have := f412.o u94; exact rG.step yG yR E615 w9 K618 (by have := yR.2 6 _ _ rfl 44; omega) (by have := R600.1 15 _ _ rfl; have := R600.1 16 _ _ rfl; have := R600.1 19 _ _ rfl; omega) (by have := R600.1 15 _ _ rfl; have := R600.1 16 _ _ rfl; have := R600.1 19 _ _ rfl; omega) (fun h9 => by exfalso; have := R600.1 15 _ _ rfl; have := R600.1 16 _ _ rfl; have := R600.1 19 _ _ rfl; omega) (fun h9 => (by have := R600.1 15 _ _ rfl; have := R600.1 16 _ _ rfl; have := R600.1 19 _ _ rfl; omega)) (by have := R600.1 15 _ _ rfl; have := R600.1 16 _ _ rfl; have := R600.1 19 _ _ rfl; omega) K619)), (rO.of E615 K618 (by have := yR.2 6 _ _ rfl 44; omega)), ⟨E615.2.1, fun w9 => by skip; have := E615.w2 w9; omega⟩, (fun w9 => by have u91 : rv M559 o0 19 = 0 := (by omega); have := f569.o u91; have := f570.o u91; have u92 : rv M497 o0 19 = 0 := (by omega); have := f511.o u92; have := f512.o u92; have := f508.o u92; have u93 : rv M433 o0 19 = 0 := (by omega); have := f447.o u93; have := f448.o u93; have := f444.o u93; have u94 : rv M394 o0 19 = 0 := (by omega); have := f411.o u94; have := f412.o u94; omega), (fun h9 _ => absurd h9 (f17.o (by have := R600.1 15 _ _ rfl; have := R600.1 16 _ _ rfl; have := R600.1 19 _ _ rfl; omega))), (by have := R600.1 15 _ _ rfl; have := R600.1 16 _ _ rfl; have := R600.1 19 _ _ rfl; omega), (absurd (pW1 (Im.o d312) (by omega)) (pW0 (Im.o d387) (by omega))), (fun w9 => by have u91 : rv M559 o0 19 = 0 := (by omega); have := f569.o u91; have := f570.o u91; have u92 : rv M497 o0 19 = 0 := (by omega); have := f511.o u92; have := f512.o u92; have := f508.o u92; have u93 : rv M433 o0 19 = 0 := (by omega); have := f447.o u93; have := f448.o u93; have := f444.o u93; have u94 : rv M394 o0 19 = 0 := (by omega); have := f411.o u94; have := f412.o u94; omega), (absurd (pW1 (Im.o d312) (by omega)) (pW0 (Im.o d387) (by omega))), K620⟩
          · refine mv_bipush (v := 7) d_TrustDeskModel_readClause_100 (by decide) ?_
            refine mv_goto (tgt := 107) d_TrustDeskModel_readClause_102 (by decide) ?_
            obtain ⟨_, b629, -⟩ := I363.1 _ _ t372
            have : (7 : Int32).toInt = 7 := by decide
            refine mv_callV (kc' := 0) (ks' := 0) (As := [.int 7]) (st9 := [.int 7, .ref o0]) d_TrustDeskModel_readClause_107 lV_TrustDeskModel_342 b629 rfl (tc_TrustDeskModel_begin_a (d := (d + 23)) (x9 := x9) (o0 := o0) (x1 := 7) t372 R368 E381.1 (E381.s yS (by decide)) (by have := R368.1 15 _ _ rfl; have := R368.1 16 _ _ rfl; have := R368.1 19 _ _ rfl; omega) (by have := f369.o (by omega); omega) (by have := R368.1 15 _ _ rfl; have := R368.1 16 _ _ rfl; have := R368.1 19 _ _ rfl; omega) Z9386 I363.start) rfl (Nat.le_of_ble_eq_true rfl) (Nat.le_of_ble_eq_true rfl) (Nat.le_of_ble_eq_true rfl) (hst := rfl) (fun b623r M624 n625 b623 => ?_)
            obtain ⟨T626, J627, v630, rfl, R631, f632, f633, f634, f635, f636, f637, f638, f639⟩ := b623
            have I628 := I363.call J627 (tm_sub (by decide)) (Or.inl rfl)
            have t640 := J627.up t372
            have := f632.2.1
            have f641 := Im.i f632.w.2
            have f642 := Im.i f632.w2
            have z643 := (rv_c I363 J627 (I363.up h_o0) (k := 19) rfl).trans z376
            have z644 := (rv_c I363 J627 (I363.up h_o0) (k := 22) rfl).trans z377
            have z645 := (rv_c I363 J627 (I363.up h_o0) (k := 24) rfl).trans z378
            have z646 := (ra_call I363 J627 (I363.up h_o0) (k := 5) rfl rfl rfl 44).trans z379
            have E647 : rE M0 M624 o0 0 1 := E381.trans f632 (by decide) (yR.2 5 _ _ rfl 44).1 (by decide) (by decide)
            have h648 : (880 + ra M359 o0 6 44).toNat = (880 + ra M0 o0 6 44).toNat := by omega
            rw [h648] at f635 f636 f637
            have K649 : rK M0 M624 o0 ((880 + ra M0 o0 6 44).toNat) := K382.trans f637
            have K650 : nN M624 o0 := K383.same (sA_c I363 J627 (I363.up h_o0) (by decide +kernel)) (sF_c I363 J627 (I363.up h_o0) (by decide +kernel))
            have K651 : ∀ i : Nat, i ≠ 44 → ra M624 o0 6 i = ra M0 o0 6 i := (fun i h9 => (f639 i h9).trans (K384 i h9))
            have K652 : pN M624 o0 pn pN9 := K385.same (sA_c I363 J627 (I363.up h_o0) (by decide +kernel)) (sF_c I363 J627 (I363.up h_o0) (by decide +kernel))
            obtain ⟨s653, e654⟩ : ∃ s9 : p_S, p_nx ps = s9 := ⟨_, rfl⟩
            rw [e654] at f638
            have := f638.w
            clear z377 z378
            have q655 := J627.keep t372 (by decide) q388
            have t656 := J627.up t389
            have q657 := J627.keep t372 (by decide) q390
            refine mv_istore_n (lv' := [(3, .int v630), (2, .int v365), (1, .int v11), (0, .ref o0)]) d_TrustDeskModel_readClause_110 rfl (by decide) rfl ?_
            refine mv_iload_n d_TrustDeskModel_readClause_111 rfl rfl ?_
            have := mz_hi v11
            refine mv_if_eqZ (tgt := 123) (a := v11.toInt) d_TrustDeskModel_readClause_112 (by decide) rfl (fun b658 => ?_) (fun b658 => absurd b658 (by omega))
            refine mv_iload_n d_TrustDeskModel_readClause_123 rfl rfl ?_
            have := mz_hi v365
            refine mv_if_eqZ (tgt := 135) (a := v365.toInt) d_TrustDeskModel_readClause_124 (by decide) rfl (fun b659 => absurd b659 (by omega)) (fun b659 => ?_)
            refine mv_aload_n d_TrustDeskModel_readClause_127 rfl rfl ?_
            refine mv_iload_n d_TrustDeskModel_readClause_128 rfl rfl ?_
            obtain ⟨_, b666, -⟩ := I628.1 _ _ t640
            refine mv_callV (kc' := 0) (ks' := 0) (As := [.int v630]) (st9 := [.int v630, .ref o0]) d_TrustDeskModel_readClause_129 lV_TrustDeskModel_348 b666 rfl (tc_TrustDeskModel_readMarks_x (d := (d + 22)) (x9 := x9) (o0 := o0) (x1 := v630) t640 R631 E647.1 (E647.s yS (by decide)) (by have := R631.1 15 _ _ rfl; have := R631.1 16 _ _ rfl; have := R631.1 19 _ _ rfl; omega) f638 I628.start) rfl (Nat.le_of_ble_eq_true rfl) (Nat.le_of_ble_eq_true rfl) (Nat.le_of_ble_eq_true rfl) (hst := rfl) (fun b660r M661 n662 b660 => ?_)
            obtain ⟨T663, J664, rfl, R667, f668, f669, f670, f671⟩ := b660
            have I665 := I628.call J664 (tm_sub (by decide)) (Or.inl rfl)
            have t672 := J664.up t640
            have := f668.2.1
            have f673 := Im.i f668.w.2
            have f674 := Im.i f668.w2
            have z675 := (rv_c I628 J664 (I628.up h_o0) (k := 22) rfl).trans z644
            have z676 := (rv_c I628 J664 (I628.up h_o0) (k := 24) rfl).trans z645
            have z677 := (ra_call I628 J664 (I628.up h_o0) (k := 5) rfl rfl rfl 44).trans z646
            have z678 := (ra_call I628 J664 (I628.up h_o0) (k := 6) rfl rfl rfl 44)
            have z679 := (ra_call I628 J664 (I628.up h_o0) (k := 7) rfl rfl rfl ((880 + ra M0 o0 6 44).toNat))
            have z680 := (ra_call I628 J664 (I628.up h_o0) (k := 10) rfl rfl rfl ((880 + ra M0 o0 6 44).toNat))
            have E681 : rE M0 M661 o0 0 1 := E647.trans f668 (by decide) (yR.2 5 _ _ rfl 44).1 (by decide) (by decide)
            have h682 : v630.toNatClampNeg = (880 + ra M0 o0 6 44).toNat := by have := mz_nat9 (i := v630) (by have := R631.1 15 _ _ rfl; have := R631.1 16 _ _ rfl; have := R631.1 19 _ _ rfl; omega); have := R631.1 15 _ _ rfl; have := R631.1 16 _ _ rfl; have := R631.1 19 _ _ rfl; omega
            rw [h682] at f669 f670
            have K683 : rK M0 M661 o0 ((880 + ra M0 o0 6 44).toNat) := K649.one8 (sA_c I628 J664 (I628.up h_o0) (by decide)) f669
            have K684 : nN M661 o0 := K650.same (sA_c I628 J664 (I628.up h_o0) (by decide +kernel)) (sF_c I628 J664 (I628.up h_o0) (by decide +kernel))
            have K685 : ∀ i : Nat, i ≠ 44 → ra M661 o0 6 i = ra M0 o0 6 i := (by have e9 := ((sA_c I628 J664 (I628.up h_o0) (by decide +kernel)) : sA [6] _ _ _) 6 rfl; rw [e9]; exact K651)
            have K686 : pN M661 o0 pn pN9 := K652.same (sA_c I628 J664 (I628.up h_o0) (by decide +kernel)) (sF_c I628 J664 (I628.up h_o0) (by decide +kernel))
            obtain ⟨s687, e688⟩ : ∃ s9 : p_S, p_mar pb pn s653 = s9 := ⟨_, rfl⟩
            rw [e688] at f671
            have := f671.w
            clear z644 z645 z646
            have q689 := J664.keep t640 (by decide) q655
            have t690 := J664.up t656
            refine mv_goto (tgt := 165) d_TrustDeskModel_readClause_132 (by decide) ?_
            refine mv_aload_n d_TrustDeskModel_readClause_165 rfl rfl ?_
            refine mv_bipush (v := 59) d_TrustDeskModel_readClause_166 (by decide) ?_
            obtain ⟨_, b697, -⟩ := I665.1 _ _ t672
            have : (59 : Int32).toInt = 59 := by decide
            refine mv_callV (kc' := 0) (ks' := 0) (As := [.int 59]) (st9 := [.int 59, .ref o0]) d_TrustDeskModel_readClause_168 lV_TrustDeskModel_291 b697 rfl (tc_TrustDeskModel_wantSign_x (d := (d + 23)) (x9 := x9) (o0 := o0) (x1 := 59) t672 R667 E681.1 (E681.s yS (by decide)) (by decide) f671 I665.start) rfl (Nat.le_of_ble_eq_true rfl) (Nat.le_of_ble_eq_true rfl) (Nat.le_of_ble_eq_true rfl) (hst := rfl) (fun b691r M692 n693 b691 => ?_)
            obtain ⟨T694, J695, rfl, R698, f699, f700⟩ := b691
            have I696 := I665.call J695 (tm_sub (by decide)) (Or.inl rfl)
            have t701 := J695.up t672
            have := f699.2.1
            have f702 := Im.i f699.w.2
            have f703 := Im.i f699.w2
            have z704 := (rv_c I665 J695 (I665.up h_o0) (k := 22) rfl).trans z675
            have z705 := (rv_c I665 J695 (I665.up h_o0) (k := 24) rfl).trans z676
            have z706 := (ra_call I665 J695 (I665.up h_o0) (k := 5) rfl rfl rfl 44).trans z677
            have z707 := (ra_call I665 J695 (I665.up h_o0) (k := 6) rfl rfl rfl 44).trans z678
            have z708 := (ra_call I665 J695 (I665.up h_o0) (k := 7) rfl rfl rfl ((880 + ra M0 o0 6 44).toNat)).trans z679
            have z709 := (ra_call I665 J695 (I665.up h_o0) (k := 10) rfl rfl rfl ((880 + ra M0 o0 6 44).toNat)).trans z680
            have z710 := (ra_call I665 J695 (I665.up h_o0) (k := 8) rfl rfl rfl ((880 + ra M0 o0 6 44).toNat))
            have E711 : rE M0 M692 o0 0 2 := E681.trans f699 (by decide) (yR.2 5 _ _ rfl 44).1 (by decide) (by decide)
            have K712 : rK M0 M692 o0 ((880 + ra M0 o0 6 44).toNat) := K683.same (sA_c I665 J695 (I665.up h_o0) (by decide +kernel))
            have K713 : nN M692 o0 := K684.same (sA_c I665 J695 (I665.up h_o0) (by decide +kernel)) (sF_c I665 J695 (I665.up h_o0) (by decide +kernel))
            have K714 : ∀ i : Nat, i ≠ 44 → ra M692 o0 6 i = ra M0 o0 6 i := (by have e9 := ((sA_c I665 J695 (I665.up h_o0) (by decide +kernel)) : sA [6] _ _ _) 6 rfl; rw [e9]; exact K685)
            have K715 : pN M692 o0 pn pN9 := K686.same (sA_c I665 J695 (I665.up h_o0) (by decide +kernel)) (sF_c I665 J695 (I665.up h_o0) (by decide +kernel))
            rw [show (59 : Int32).toInt = 59 from by decide] at f700
            obtain ⟨s716, e717⟩ : ∃ s9 : p_S, p_sg pb pn 59 s687 = s9 := ⟨_, rfl⟩
            rw [e717] at f700
            have := f700.w
            clear z675 z676 z677 z678 z679 z680
            have q718 := J695.keep t672 (by decide) q689
            have t719 := J695.up t690
            refine mv_aload_n d_TrustDeskModel_readClause_171 rfl rfl ?_
            obtain ⟨a721, q720, t_a721⟩ := tm_atR I696 t701 (k := 12) rfl
            refine tr_getK q720 d_TrustDeskModel_readClause_172 f_TrustDeskModel_41_13 ?_
            refine mv_iload_n d_TrustDeskModel_readClause_175 rfl rfl ?_
            refine mv_aload_n d_TrustDeskModel_readClause_176 rfl rfl ?_
            obtain ⟨a723, q722, t_a723⟩ := tm_atR I696 t701 (k := 5) rfl
            refine tr_getK q722 d_TrustDeskModel_readClause_177 f_TrustDeskModel_20_13 ?_
            refine mv_bipush (v := 44) d_TrustDeskModel_readClause_180 (by decide) ?_
            refine tr_ialdR (o := o0) (k := 5) I696 q722 t_a723 (by decide) d_TrustDeskModel_readClause_182 (by unfold vp_in; decide) (fun v724 e725 => ?_)
            have := R698.a (k := 5) rfl (44 : Int32).toNatClampNeg
            have : v724.toInt = ra M692 o0 5 44 := e725
            have : v724.toInt = _ := Eq.trans e725 z706
            refine tr_iastR (k := 12) I696 R698 (I696.up h_o0) q720 t_a721 (by decide) (by decide) (fun lo hi h => by cases h; have := R698.1 15 _ _ rfl; have := R698.1 16 _ _ rfl; have := R698.1 19 _ _ rfl; exact ⟨by show (0 : Int) ≤ v724.toInt; omega, by show v724.toInt ≤ (400 : Int); omega⟩) (Or.inl (by decide)) d_TrustDeskModel_readClause_183 (vp_in_iff.mpr (by have := R698.1 15 _ _ rfl; have := R698.1 16 _ _ rfl; have := R698.1 19 _ _ rfl; omega)) (fun M726 I727 K728 R729 E730 A731 V732 => ?_)
            have z733 := (V732 15)
            have z734 := (V732 16)
            have z735 := (V732 17)
            have z736 := (V732 19)
            have z737 := (V732 22).trans z704
            have z738 := (V732 24).trans z705
            have z739 := (A731 5 (by decide) rfl 44).trans z706
            have z740 := (A731 6 (by decide) rfl 44).trans z707
            have z741 := (A731 7 (by decide) rfl ((880 + ra M0 o0 6 44).toNat)).trans z708
            have z742 := (A731 10 (by decide) rfl ((880 + ra M0 o0 6 44).toNat)).trans z709
            have z743 := (A731 8 (by decide) rfl ((880 + ra M0 o0 6 44).toNat)).trans z710
            have E744 : rE M0 M726 o0 0 2 := E711.same (fun k _ _ => V732 k) (fun k h1 h2 => A731 k (by omega) (by rcases (show k = 4 ∨ k = 5 by omega) with rfl | rfl <;> rfl))
            have h745 : (880 + ra M0 o0 6 44).toNat = v630.toNatClampNeg := by have := mz_nat9 (i := v630) (by have := R698.1 15 _ _ rfl; have := R698.1 16 _ _ rfl; have := R698.1 19 _ _ rfl; omega); have := R698.1 15 _ _ rfl; have := R698.1 16 _ _ rfl; have := R698.1 19 _ _ rfl; omega
            have z746 : ra M726 o0 12 ((880 + ra M0 o0 6 44).toNat) = v724.toInt := (E730 _).trans (if_pos h745)
            have K747 : rK M0 M726 o0 ((880 + ra M0 o0 6 44).toNat) := K712.st A731 E730 (by have := mz_nat9 (i := v630) (by have := R698.1 15 _ _ rfl; have := R698.1 16 _ _ rfl; have := R698.1 19 _ _ rfl; omega); have := R698.1 15 _ _ rfl; have := R698.1 16 _ _ rfl; have := R698.1 19 _ _ rfl; omega)
            have K748 : nN M726 o0 := K713.same (sA_a A731 (by decide +kernel)) (sF_a V732)
            have K749 : ∀ i : Nat, i ≠ 44 → ra M726 o0 6 i = ra M0 o0 6 i := (by have e9 := ((sA_a A731 (by decide +kernel)) : sA [6] _ _ _) 6 rfl; rw [e9]; exact K714)
            have K750 : pN M726 o0 pn pN9 := K715.same (sA_a A731 (by decide +kernel)) (sF_a V732)
            have Z9751 : pO M726 o0 pb pn pa s716 := f700.same (fun k _ _ => V732 k) (V732 23) (A731 13 (by decide) rfl)
            clear z704 z705 z706 z707 z708 z709 z710
            exact mv_vret d_TrustDeskModel_readClause_184 rfl ⟨_, I727, rfl, R729, (rW.of E744.1 (E744.s yS (by decide)) (fun w9 => by have u91 : rv M692 o0 19 = 0 := (by omega); have := f702.o u91; have := f703.o u91; have u92 : rv M661 o0 19 = 0 := (by omega); have := f673.o u92; have := f674.o u92; have u93 : rv M624 o0 19 = 0 := (by omega); have := f641.o u93; have := f642.o u93; exact rG.step yG yR E744 w9 K747 (by have := yR.2 6 _ _ rfl 44; omega) (by have := R729.1 15 _ _ rfl; have := R729.1 16 _ _ rfl; have := R729.1 19 _ _ rfl; omega) (by have := R729.1 15 _ _ rfl; have := R729.1 16 _ _ rfl; have := R729.1 19 _ _ rfl; omega) (fun h9 => by exfalso; have := R729.1 15 _ _ rfl; have := R729.1 16 _ _ rfl; have := R729.1 19 _ _ rfl; omega) (fun h9 => (by have := R729.1 15 _ _ rfl; have := R729.1 16 _ _ rfl; have := R729.1 19 _ _ rfl; omega)) (by have := R729.1 15 _ _ rfl; have := R729.1 16 _ _ rfl; have := R729.1 19 _ _ rfl; omega) K748)), (rO.of E744 K747 (by have := yR.2 6 _ _ rfl 44; omega)), ⟨E744.2.1, fun w9 => by skip; have := E744.w2 w9; omega⟩, (fun w9 => by have u91 : rv M692 o0 19 = 0 := (by omega); have := f702.o u91; have := f703.o u91; have u92 : rv M661 o0 19 = 0 := (by omega); have := f673.o u92; have := f674.o u92; have u93 : rv M624 o0 19 = 0 := (by omega); have := f641.o u93; have := f642.o u93; omega), (fun h9 _ => absurd h9 (f17.o (by have := R729.1 15 _ _ rfl; have := R729.1 16 _ _ rfl; have := R729.1 19 _ _ rfl; omega))), (by have := R729.1 15 _ _ rfl; have := R729.1 16 _ _ rfl; have := R729.1 19 _ _ rfl; omega), (by rw [show (p_cl pb pn pa (pc9, pN9, ps)).2 = s716 from (congrArg Prod.snd (p_cl_m (yO.w.symm.trans yw) (pW1 (Im.o d387) (by omega)) (Im.o h351))).trans (by show _ = _; (try dsimp only); (try (first | (simp only [e654, e688, e717]; done) | (simp only [e654, e688, e717]; first | exact p_sg_Z _ (by omega) | omega))))]; exact Z9751), (fun w9 => by have u91 : rv M692 o0 19 = 0 := (by omega); have := f702.o u91; have := f703.o u91; have u92 : rv M661 o0 19 = 0 := (by omega); have := f673.o u92; have := f674.o u92; have u93 : rv M624 o0 19 = 0 := (by omega); have := f641.o u93; have := f642.o u93; omega), (fun w9 => by have e9 : (p_cl pb pn pa (pc9, pN9, ps)).1 = pN9 := (congrArg Prod.fst (p_cl_m (yO.w.symm.trans yw) (pW1 (Im.o d387) (by omega)) (Im.o h351))).trans (by (try rw [← e654]); rfl); rw [e9]; exact K750), K749⟩
    · refine mv_aload_n d_TrustDeskModel_readClause_22 rfl rfl ?_
      refine mv_ldcSw (id := 44) (tx := "trust") d_TrustDeskModel_readClause_23 (List.mem_of_getElem? (i := 34) rfl) ?_
      obtain ⟨_, b758, -⟩ := I288.1 _ _ t297
      refine mv_callV (kc' := 0) (ks' := 0) (As := [.ref 44]) (st9 := [.ref 44, .ref o0]) d_TrustDeskModel_readClause_26 lV_TrustDeskModel_244 b758 rfl (tc_TrustDeskModel_isWord_s1_44_x (d := (d + 21)) (x9 := x9) (o0 := o0) t297 R293 I288.start) rfl (Nat.le_of_ble_eq_true rfl) (Nat.le_of_ble_eq_true rfl) (Nat.le_of_ble_eq_true rfl) (hst := rfl) (fun b752r M753 n754 b752 => ?_)
      obtain ⟨T755, J756, v759, rfl, b760, b761, R762, f763, f764, f765⟩ := b752
      have I757 := I288.call J756 (tm_sub (by decide)) (Or.inl rfl)
      have t766 := J756.up t297
      replace f763 := Im.i f763
      replace f764 := Im.i f764
      replace f765 := Im.i f765
      have z767 := (rv_c I288 J756 (I288.up h_o0) (k := 15) rfl).trans z298
      have z768 := (rv_c I288 J756 (I288.up h_o0) (k := 16) rfl).trans z299
      have z769 := (rv_c I288 J756 (I288.up h_o0) (k := 17) rfl).trans z300
      have z770 := (rv_c I288 J756 (I288.up h_o0) (k := 19) rfl).trans z301
      have z771 := (rv_c I288 J756 (I288.up h_o0) (k := 22) rfl).trans z302
      have z772 := (rv_c I288 J756 (I288.up h_o0) (k := 24) rfl).trans z303
      have z773 := (ra_call I288 J756 (I288.up h_o0) (k := 5) rfl rfl rfl 44).trans z304
      have z774 := (ra_call I288 J756 (I288.up h_o0) (k := 6) rfl rfl rfl 44).trans z305
      have E775 : rE M0 M753 o0 0 0 := E306.same (rE_hv I288 J756 (I288.up h_o0) 15 19 (by decide)) (rE_ha I288 J756 (I288.up h_o0) (by decide))
      have K776 : rK M0 M753 o0 ((880 + ra M0 o0 6 44).toNat) := K307.same (sA_c I288 J756 (I288.up h_o0) (by decide +kernel))
      have K777 : nN M753 o0 := K308.same (sA_c I288 J756 (I288.up h_o0) (by decide +kernel)) (sF_c I288 J756 (I288.up h_o0) (by decide +kernel))
      have K778 : ∀ i : Nat, i ≠ 44 → ra M753 o0 6 i = ra M0 o0 6 i := (by have e9 := ((sA_c I288 J756 (I288.up h_o0) (by decide +kernel)) : sA [6] _ _ _) 6 rfl; rw [e9]; exact K309)
      have K779 : pN M753 o0 pn pN9 := K310.same (sA_c I288 J756 (I288.up h_o0) (by decide +kernel)) (sF_c I288 J756 (I288.up h_o0) (by decide +kernel))
      have Z9780 : pO M753 o0 pb pn pa ps := Z9311.same (rE_hv I288 J756 (I288.up h_o0) 14 20 (by decide)) (rv_c I288 J756 (I288.up h_o0) (k := 23) rfl) (ra_call I288 J756 (I288.up h_o0) (k := 13) rfl rfl rfl)
      have d781 := Im.i (pO.w_25 Z9311 (by have := R293.1 15 _ _ rfl; have := R293.1 16 _ _ rfl; have := R293.1 19 _ _ rfl; omega) (Im.o f764) (Im.o f765) (by have := R293.1 15 _ _ rfl; have := R293.1 16 _ _ rfl; have := R293.1 19 _ _ rfl; omega))
      clear z302 z303 z304 z305
      have := mz_hi v759
      refine mv_if_neZ (tgt := 40) (a := v759.toInt) d_TrustDeskModel_readClause_29 (by decide) rfl (fun b782 => ?_) (fun b782 => ?_)
      · refine mv_aload_n d_TrustDeskModel_readClause_40 rfl rfl ?_
        obtain ⟨a784, q783, t_a784⟩ := tm_atR I757 t766 (k := 6) rfl
        refine tr_getK q783 d_TrustDeskModel_readClause_41 f_TrustDeskModel_23_13 ?_
        refine mv_bipush (v := 44) d_TrustDeskModel_readClause_44 (by decide) ?_
        refine tr_ialdR (o := o0) (k := 6) I757 q783 t_a784 (by decide) d_TrustDeskModel_readClause_46 (by unfold vp_in; decide) (fun v785 e786 => ?_)
        have := R762.a (k := 6) rfl (44 : Int32).toNatClampNeg
        have : v785.toInt = ra M753 o0 6 44 := e786
        have : v785.toInt = _ := Eq.trans e786 z774
        refine mv_bipush (v := 12) d_TrustDeskModel_readClause_47 (by decide) ?_
        have := mz_hi v785
        refine mv_icmp_eqZ (tgt := 65) (a := v785.toInt) (b := 12) d_TrustDeskModel_readClause_49 (by decide) rfl (by decide) (fun b787 => ?_) (fun b787 => ?_)
        · have h788 : Im (12 ≤ pc9) := Im.i (by omega)
          refine mv_aload_n d_TrustDeskModel_readClause_65 rfl rfl ?_
          refine mv_iconst (v := 4) d_TrustDeskModel_readClause_66 (by decide) ?_
          obtain ⟨_, b795, -⟩ := I757.1 _ _ t766
          have : (4 : Int32).toInt = 4 := by decide
          refine mv_callV (kc' := 0) (ks' := 0) (As := [.int 4]) (st9 := [.int 4, .ref o0]) d_TrustDeskModel_readClause_67 lV_TrustDeskModel_240 b795 rfl (tc_TrustDeskModel_fails_x (d := (d + 25)) (x9 := x9) (o0 := o0) (x1 := 4) t766 R762 (by decide) Z9780 I757.start) rfl (Nat.le_of_ble_eq_true rfl) (Nat.le_of_ble_eq_true rfl) (Nat.le_of_ble_eq_true rfl) (hst := rfl) (fun b789r M790 n791 b789 => ?_)
          obtain ⟨T792, J793, rfl, R796, f797, f798⟩ := b789
          have I794 := I757.call J793 (tm_sub (by decide)) (Or.inl rfl)
          have t799 := J793.up t766
          have z800 := (rv_c I757 J793 (I757.up h_o0) (k := 15) rfl).trans z767
          have z801 := (rv_c I757 J793 (I757.up h_o0) (k := 16) rfl).trans z768
          have z802 := (rv_c I757 J793 (I757.up h_o0) (k := 17) rfl).trans z769
          have z803 := (rv_c I757 J793 (I757.up h_o0) (k := 22) rfl).trans z771
          have z804 := (rv_c I757 J793 (I757.up h_o0) (k := 24) rfl).trans z772
          have z805 := (ra_call I757 J793 (I757.up h_o0) (k := 5) rfl rfl rfl 44).trans z773
          have z806 := (ra_call I757 J793 (I757.up h_o0) (k := 6) rfl rfl rfl 44).trans z774
          have E807 : rE M0 M790 o0 0 0 := E775.fails (rE_hv I757 J793 (I757.up h_o0) 15 18 (by decide)) (rE_ha I757 J793 (I757.up h_o0) (by decide)) f797 0 0
          have K808 : rK M0 M790 o0 ((880 + ra M0 o0 6 44).toNat) := K776.same (sA_c I757 J793 (I757.up h_o0) (by decide +kernel))
          have K809 : nN M790 o0 := K777.same (sA_c I757 J793 (I757.up h_o0) (by decide +kernel)) (sF_c I757 J793 (I757.up h_o0) (by decide +kernel))
          have K810 : ∀ i : Nat, i ≠ 44 → ra M790 o0 6 i = ra M0 o0 6 i := (by have e9 := ((sA_c I757 J793 (I757.up h_o0) (by decide +kernel)) : sA [6] _ _ _) 6 rfl; rw [e9]; exact K778)
          have K811 : pN M790 o0 pn pN9 := K779.same (sA_c I757 J793 (I757.up h_o0) (by decide +kernel)) (sF_c I757 J793 (I757.up h_o0) (by decide +kernel))
          rw [show (4 : Int32).toInt = 4 from by decide] at f798
          obtain ⟨s812, e813⟩ : ∃ s9 : p_S, p_fl pb pn 4 ps = s9 := ⟨_, rfl⟩
          rw [e813] at f798
          have := f798.w
          clear z767 z768 z769 z771 z772 z773 z774
          have q814 := J793.keep t766 (by decide) q783
          have t815 := J793.up t_a784
          refine mv_aload_n d_TrustDeskModel_readClause_70 rfl rfl ?_
          obtain ⟨_, b816, -⟩ := I794.1 _ _ t799
          refine mv_callV (kc1 := 0) (ks1 := 0) (kc' := 0) (ks' := 0) (As := []) (st9 := [.ref o0]) d_TrustDeskModel_readClause_71 lV_TrustDeskModel_230 b816 rfl (mj_enter (by decide) (Nat.le_of_ble_eq_true rfl) ?_) rfl (Nat.le_of_ble_eq_true rfl) (Nat.le_of_ble_eq_true rfl) (Nat.le_of_ble_eq_true rfl) (hst := rfl) (fun _ _ _ h => h)
          refine mv_aload_n d_TrustDeskModel_isWell_0 rfl rfl ?_
          obtain ⟨v818, q817⟩ := tm_atI I794 t799 (k := 19) rfl
          refine tr_getK q817 d_TrustDeskModel_isWell_1 f_TrustDeskModel_224_13 ?_
          have := R796.f (k := 19) q817 rfl
          have := tm_rv q817
          refine mv_if_neZ (tgt := 11) (a := v818.toInt) d_TrustDeskModel_isWell_4 (by decide) rfl (fun b819 => ?_) (fun b819 => ?_)
          · refine mv_iconst (v := 0) d_TrustDeskModel_isWell_11 (by decide) ?_
            refine mv_iret d_TrustDeskModel_isWell_12 rfl (by decide) ?_
            refine mv_if_ne_f (tgt := 78) d_TrustDeskModel_readClause_74 (by decide) (by decide) ?_
            exact mv_vret d_TrustDeskModel_readClause_77 rfl ⟨_, I794, rfl, R796, (rW.of E807.1 (fun h9 => by exfalso; skip; have := R796.1 15 _ _ rfl; have := R796.1 16 _ _ rfl; have := R796.1 19 _ _ rfl; omega) (fun h9 => by exfalso; skip; have := R796.1 15 _ _ rfl; have := R796.1 16 _ _ rfl; have := R796.1 19 _ _ rfl; omega)), (rO.of E807 K808 (by have := yR.2 6 _ _ rfl 44; omega)), ⟨E807.2.1, fun w9 => by skip; have := E807.w2 w9; omega⟩, (fun w9 => by skip; omega), (fun _ h9 => by exfalso; skip; have := R796.1 15 _ _ rfl; have := R796.1 16 _ _ rfl; have := R796.1 19 _ _ rfl; omega), (by have := R796.1 15 _ _ rfl; have := R796.1 16 _ _ rfl; have := R796.1 19 _ _ rfl; omega), (by rw [show (p_cl pb pn pa (pc9, pN9, ps)).2 = s812 from (congrArg Prod.snd (p_cl_4 (yO.w.symm.trans yw) (Or.inr (Or.inr (pW1 (Im.o d781) (by omega)))) (Or.inl (Im.o h788)))).trans (by show _ = _; (try dsimp only); (try (first | (simp only [e813]; done) | (simp only [e813]; first | exact p_sg_Z _ (by omega) | omega))))]; exact f798), (fun w9 => by skip; omega), (fun h9 => by exfalso; skip; have := R796.1 15 _ _ rfl; have := R796.1 16 _ _ rfl; have := R796.1 19 _ _ rfl; omega), K810⟩
          · exfalso
            have := R796.1 15 _ _ rfl; have := R796.1 16 _ _ rfl; have := R796.1 19 _ _ rfl; omega
        · have h820 : Im (¬ 12 ≤ pc9) := Im.i (by omega)
          refine mv_iload_n d_TrustDeskModel_readClause_52 rfl rfl ?_
          have := mz_hi v11
          refine mv_if_eqZ (tgt := 70) (a := v11.toInt) d_TrustDeskModel_readClause_53 (by decide) rfl (fun b821 => ?_) (fun b821 => absurd b821 (by omega))
          refine mv_aload_n d_TrustDeskModel_readClause_70 rfl rfl ?_
          obtain ⟨_, b823, -⟩ := I757.1 _ _ t766
          refine mv_callV (kc1 := 0) (ks1 := 0) (kc' := 0) (ks' := 0) (As := []) (st9 := [.ref o0]) d_TrustDeskModel_readClause_71 lV_TrustDeskModel_230 b823 rfl (mj_enter (by decide) (Nat.le_of_ble_eq_true rfl) ?_) rfl (Nat.le_of_ble_eq_true rfl) (Nat.le_of_ble_eq_true rfl) (Nat.le_of_ble_eq_true rfl) (hst := rfl) (fun _ _ _ h => h)
          refine mv_aload_n d_TrustDeskModel_isWell_0 rfl rfl ?_
          obtain ⟨v825, q824⟩ := tm_atI I757 t766 (k := 19) rfl
          refine tr_getK q824 d_TrustDeskModel_isWell_1 f_TrustDeskModel_224_13 ?_
          have := R762.f (k := 19) q824 rfl
          have := (tm_rv q824).symm.trans z770
          have := tm_rv q824
          have := mz_hi v825
          refine mv_if_neZ (tgt := 11) (a := v825.toInt) d_TrustDeskModel_isWell_4 (by decide) rfl (fun b826 => ?_) (fun b826 => ?_)
          · refine mv_iconst (v := 0) d_TrustDeskModel_isWell_11 (by decide) ?_
            refine mv_iret d_TrustDeskModel_isWell_12 rfl (by decide) ?_
            refine mv_if_ne_f (tgt := 78) d_TrustDeskModel_readClause_74 (by decide) (by decide) ?_
            exact mv_vret d_TrustDeskModel_readClause_77 rfl ⟨_, I757, rfl, R762, (rW.of E775.1 (E775.s yS (by decide)) (fun w9 => by skip; exact rG.step yG yR E775 w9 K776 (by have := yR.2 6 _ _ rfl 44; omega) (by have := R762.1 15 _ _ rfl; have := R762.1 16 _ _ rfl; have := R762.1 19 _ _ rfl; omega) (by have := R762.1 15 _ _ rfl; have := R762.1 16 _ _ rfl; have := R762.1 19 _ _ rfl; omega) (fun h9 => by exfalso; have := R762.1 15 _ _ rfl; have := R762.1 16 _ _ rfl; have := R762.1 19 _ _ rfl; omega) (fun h9 => (by have := R762.1 15 _ _ rfl; have := R762.1 16 _ _ rfl; have := R762.1 19 _ _ rfl; omega)) (by have := R762.1 15 _ _ rfl; have := R762.1 16 _ _ rfl; have := R762.1 19 _ _ rfl; omega) K777)), (rO.of E775 K776 (by have := yR.2 6 _ _ rfl 44; omega)), ⟨E775.2.1, fun w9 => by skip; have := E775.w2 w9; omega⟩, (fun w9 => by skip; omega), (fun _ h9 => absurd h9 (by have := R762.1 15 _ _ rfl; have := R762.1 16 _ _ rfl; have := R762.1 19 _ _ rfl; omega)), (by have := R762.1 15 _ _ rfl; have := R762.1 16 _ _ rfl; have := R762.1 19 _ _ rfl; omega), (by rw [show (p_cl pb pn pa (pc9, pN9, ps)).2 = ps from (congrArg Prod.snd (p_cl_nz (by omega))).trans (by show _ = _; (try dsimp only); (try (first | (simp only [eq_self]; done) | (simp only [eq_self]; first | exact p_sg_Z _ (by omega) | omega))))]; exact Z9780), (fun w9 => by skip; omega), (fun h9 => by exfalso; skip; have := R762.1 15 _ _ rfl; have := R762.1 16 _ _ rfl; have := R762.1 19 _ _ rfl; omega), K778⟩
          · refine mv_iconst (v := 1) d_TrustDeskModel_isWell_7 (by decide) ?_
            refine mv_goto (tgt := 12) d_TrustDeskModel_isWell_8 (by decide) ?_
            refine mv_iret d_TrustDeskModel_isWell_12 rfl (by decide) ?_
            refine mv_if_ne_t (tgt := 78) d_TrustDeskModel_readClause_74 (by decide) (by decide) ?_
            refine mv_aload_n d_TrustDeskModel_readClause_78 rfl rfl ?_
            refine mv_ldcSw (id := 43) (tx := "mark") d_TrustDeskModel_readClause_79 (List.mem_of_getElem? (i := 33) rfl) ?_
            obtain ⟨_, b833, -⟩ := I757.1 _ _ t766
            refine mv_callV (kc' := 0) (ks' := 0) (As := [.ref 43]) (st9 := [.ref 43, .ref o0]) d_TrustDeskModel_readClause_82 lV_TrustDeskModel_244 b833 rfl (tc_TrustDeskModel_isWord_s1_43_x (d := (d + 21)) (x9 := x9) (o0 := o0) t766 R762 I757.start) rfl (Nat.le_of_ble_eq_true rfl) (Nat.le_of_ble_eq_true rfl) (Nat.le_of_ble_eq_true rfl) (hst := rfl) (fun b827r M828 n829 b827 => ?_)
            obtain ⟨T830, J831, v834, rfl, b835, b836, R837, f838, f839, f840⟩ := b827
            have I832 := I757.call J831 (tm_sub (by decide)) (Or.inl rfl)
            have t841 := J831.up t766
            replace f838 := Im.i f838
            replace f839 := Im.i f839
            replace f840 := Im.i f840
            have z842 := (rv_c I757 J831 (I757.up h_o0) (k := 15) rfl).trans z767
            have z843 := (rv_c I757 J831 (I757.up h_o0) (k := 16) rfl).trans z768
            have z844 := (rv_c I757 J831 (I757.up h_o0) (k := 17) rfl).trans z769
            have z845 := (rv_c I757 J831 (I757.up h_o0) (k := 19) rfl).trans z770
            have z846 := (rv_c I757 J831 (I757.up h_o0) (k := 22) rfl).trans z771
            have z847 := (rv_c I757 J831 (I757.up h_o0) (k := 24) rfl).trans z772
            have z848 := (ra_call I757 J831 (I757.up h_o0) (k := 5) rfl rfl rfl 44).trans z773
            have z849 := (ra_call I757 J831 (I757.up h_o0) (k := 6) rfl rfl rfl 44).trans z774
            have E850 : rE M0 M828 o0 0 0 := E775.same (rE_hv I757 J831 (I757.up h_o0) 15 19 (by decide)) (rE_ha I757 J831 (I757.up h_o0) (by decide))
            have K851 : rK M0 M828 o0 ((880 + ra M0 o0 6 44).toNat) := K776.same (sA_c I757 J831 (I757.up h_o0) (by decide +kernel))
            have K852 : nN M828 o0 := K777.same (sA_c I757 J831 (I757.up h_o0) (by decide +kernel)) (sF_c I757 J831 (I757.up h_o0) (by decide +kernel))
            have K853 : ∀ i : Nat, i ≠ 44 → ra M828 o0 6 i = ra M0 o0 6 i := (by have e9 := ((sA_c I757 J831 (I757.up h_o0) (by decide +kernel)) : sA [6] _ _ _) 6 rfl; rw [e9]; exact K778)
            have K854 : pN M828 o0 pn pN9 := K779.same (sA_c I757 J831 (I757.up h_o0) (by decide +kernel)) (sF_c I757 J831 (I757.up h_o0) (by decide +kernel))
            have Z9855 : pO M828 o0 pb pn pa ps := Z9780.same (rE_hv I757 J831 (I757.up h_o0) 14 20 (by decide)) (rv_c I757 J831 (I757.up h_o0) (k := 23) rfl) (ra_call I757 J831 (I757.up h_o0) (k := 13) rfl rfl rfl)
            have d856 := Im.i (pO.w_24 Z9780 (by have := R762.1 15 _ _ rfl; have := R762.1 16 _ _ rfl; have := R762.1 19 _ _ rfl; omega) (Im.o f839) (Im.o f840) (by have := R762.1 15 _ _ rfl; have := R762.1 16 _ _ rfl; have := R762.1 19 _ _ rfl; omega))
            clear z771 z772 z773 z774
            have q857 := J831.keep t766 (by decide) q783
            have t858 := J831.up t_a784
            have q859 := J831.keep t766 (by decide) q824
            refine mv_istore_n (lv' := [(2, .int v834), (1, .int v11), (0, .ref o0)]) d_TrustDeskModel_readClause_85 rfl (by decide) rfl ?_
            refine mv_aload_n d_TrustDeskModel_readClause_86 rfl rfl ?_
            refine mv_iload_n d_TrustDeskModel_readClause_87 rfl rfl ?_
            have := mz_hi v11
            refine mv_if_eqZ (tgt := 96) (a := v11.toInt) d_TrustDeskModel_readClause_88 (by decide) rfl (fun b860 => ?_) (fun b860 => absurd b860 (by omega))
            refine mv_iload_n d_TrustDeskModel_readClause_96 rfl rfl ?_
            have := mz_hi v834
            refine mv_if_eqZ (tgt := 105) (a := v834.toInt) d_TrustDeskModel_readClause_97 (by decide) rfl (fun b861 => ?_) (fun b861 => ?_)
            · refine mv_bipush (v := 9) d_TrustDeskModel_readClause_105 (by decide) ?_
              obtain ⟨_, b868, -⟩ := I832.1 _ _ t841
              have : (9 : Int32).toInt = 9 := by decide
              refine mv_callV (kc' := 0) (ks' := 0) (As := [.int 9]) (st9 := [.int 9, .ref o0]) d_TrustDeskModel_readClause_107 lV_TrustDeskModel_342 b868 rfl (tc_TrustDeskModel_begin_a (d := (d + 23)) (x9 := x9) (o0 := o0) (x1 := 9) t841 R837 E850.1 (E850.s yS (by decide)) (by have := R837.1 15 _ _ rfl; have := R837.1 16 _ _ rfl; have := R837.1 19 _ _ rfl; omega) (by have := f763.o (by omega); omega) (by have := R837.1 15 _ _ rfl; have := R837.1 16 _ _ rfl; have := R837.1 19 _ _ rfl; omega) Z9855 I832.start) rfl (Nat.le_of_ble_eq_true rfl) (Nat.le_of_ble_eq_true rfl) (Nat.le_of_ble_eq_true rfl) (hst := rfl) (fun b862r M863 n864 b862 => ?_)
              obtain ⟨T865, J866, v869, rfl, R870, f871, f872, f873, f874, f875, f876, f877, f878⟩ := b862
              have I867 := I832.call J866 (tm_sub (by decide)) (Or.inl rfl)
              have t879 := J866.up t841
              have := f871.2.1
              have f880 := Im.i f871.w.2
              have f881 := Im.i f871.w2
              have z882 := (rv_c I832 J866 (I832.up h_o0) (k := 19) rfl).trans z845
              have z883 := (rv_c I832 J866 (I832.up h_o0) (k := 22) rfl).trans z846
              have z884 := (rv_c I832 J866 (I832.up h_o0) (k := 24) rfl).trans z847
              have z885 := (ra_call I832 J866 (I832.up h_o0) (k := 5) rfl rfl rfl 44).trans z848
              have E886 : rE M0 M863 o0 0 1 := E850.trans f871 (by decide) (yR.2 5 _ _ rfl 44).1 (by decide) (by decide)
              have h887 : (880 + ra M828 o0 6 44).toNat = (880 + ra M0 o0 6 44).toNat := by omega
              rw [h887] at f874 f875 f876
              have K888 : rK M0 M863 o0 ((880 + ra M0 o0 6 44).toNat) := K851.trans f876
              have K889 : nN M863 o0 := K852.same (sA_c I832 J866 (I832.up h_o0) (by decide +kernel)) (sF_c I832 J866 (I832.up h_o0) (by decide +kernel))
              have K890 : ∀ i : Nat, i ≠ 44 → ra M863 o0 6 i = ra M0 o0 6 i := (fun i h9 => (f878 i h9).trans (K853 i h9))
              have K891 : pN M863 o0 pn pN9 := K854.same (sA_c I832 J866 (I832.up h_o0) (by decide +kernel)) (sF_c I832 J866 (I832.up h_o0) (by decide +kernel))
              obtain ⟨s892, e893⟩ : ∃ s9 : p_S, p_nx ps = s9 := ⟨_, rfl⟩
              rw [e893] at f877
              have := f877.w
              clear z846 z847
              have q894 := J866.keep t841 (by decide) q857
              have t895 := J866.up t858
              have q896 := J866.keep t841 (by decide) q859
              refine mv_istore_n (lv' := [(3, .int v869), (2, .int v834), (1, .int v11), (0, .ref o0)]) d_TrustDeskModel_readClause_110 rfl (by decide) rfl ?_
              refine mv_iload_n d_TrustDeskModel_readClause_111 rfl rfl ?_
              have := mz_hi v11
              refine mv_if_eqZ (tgt := 123) (a := v11.toInt) d_TrustDeskModel_readClause_112 (by decide) rfl (fun b897 => ?_) (fun b897 => absurd b897 (by omega))
              refine mv_iload_n d_TrustDeskModel_readClause_123 rfl rfl ?_
              have := mz_hi v834
              refine mv_if_eqZ (tgt := 135) (a := v834.toInt) d_TrustDeskModel_readClause_124 (by decide) rfl (fun b898 => ?_) (fun b898 => absurd b898 (by omega))
              refine mv_aload_n d_TrustDeskModel_readClause_135 rfl rfl ?_
              obtain ⟨a900, q899, t_a900⟩ := tm_atR I867 t879 (k := 8) rfl
              refine tr_getK q899 d_TrustDeskModel_readClause_136 f_TrustDeskModel_29_13 ?_
              refine mv_iload_n d_TrustDeskModel_readClause_139 rfl rfl ?_
              refine mv_aload_n d_TrustDeskModel_readClause_140 rfl rfl ?_
              refine mv_iconst (v := 1) d_TrustDeskModel_readClause_141 (by decide) ?_
              refine mv_bipush (v := 7) d_TrustDeskModel_readClause_142 (by decide) ?_
              obtain ⟨_, b907, -⟩ := I867.1 _ _ t879
              have : (1 : Int32).toInt = 1 := by decide
              have : (7 : Int32).toInt = 7 := by decide
              refine mv_callV (kc' := 0) (ks' := 0) (As := [.int 1, .int 7]) (st9 := [.int 7, .int 1, .ref o0, .int v869, .ref a900]) d_TrustDeskModel_readClause_144 lV_TrustDeskModel_317 b907 rfl (tc_TrustDeskModel_number_x (d := (d + 23)) (x9 := x9) (o0 := o0) (x1 := 1) (x2 := 7) t879 R870 E886.1 (E886.s yS (by decide)) f877 I867.start) rfl (Nat.le_of_ble_eq_true rfl) (Nat.le_of_ble_eq_true rfl) (Nat.le_of_ble_eq_true rfl) (hst := rfl) (fun b901r M902 n903 b901 => ?_)
              obtain ⟨T904, J905, v908, rfl, R909, f910, f911, f912, f913⟩ := b901
              have I906 := I867.call J905 (tm_sub (by decide)) (Or.inl rfl)
              have t914 := J905.up t879
              have t915 := J905.up t_a900
              have := f910.2.1
              have f916 := Im.i f910.w.2
              have f917 := Im.i f910.w2
              replace f913 := Im.i f913
              have z918 := (rv_c I867 J905 (I867.up h_o0) (k := 22) rfl).trans z883
              have z919 := (rv_c I867 J905 (I867.up h_o0) (k := 24) rfl).trans z884
              have z920 := (ra_call I867 J905 (I867.up h_o0) (k := 5) rfl rfl rfl 44).trans z885
              have z921 := (ra_call I867 J905 (I867.up h_o0) (k := 6) rfl rfl rfl 44)
              have z922 := (ra_call I867 J905 (I867.up h_o0) (k := 7) rfl rfl rfl ((880 + ra M0 o0 6 44).toNat))
              have z923 := (ra_call I867 J905 (I867.up h_o0) (k := 10) rfl rfl rfl ((880 + ra M0 o0 6 44).toNat))
              have E924 : rE M0 M902 o0 0 2 := E886.trans f910 (by decide) (yR.2 5 _ _ rfl 44).1 (by decide) (by decide)
              have K925 : rK M0 M902 o0 ((880 + ra M0 o0 6 44).toNat) := K888.same (sA_c I867 J905 (I867.up h_o0) (by decide +kernel))
              have K926 : nN M902 o0 := K889.same (sA_c I867 J905 (I867.up h_o0) (by decide +kernel)) (sF_c I867 J905 (I867.up h_o0) (by decide +kernel))
              have K927 : ∀ i : Nat, i ≠ 44 → ra M902 o0 6 i = ra M0 o0 6 i := (by have e9 := ((sA_c I867 J905 (I867.up h_o0) (by decide +kernel)) : sA [6] _ _ _) 6 rfl; rw [e9]; exact K890)
              have K928 : pN M902 o0 pn pN9 := K891.same (sA_c I867 J905 (I867.up h_o0) (by decide +kernel)) (sF_c I867 J905 (I867.up h_o0) (by decide +kernel))
              rw [show (1 : Int32).toInt = 1 from by decide] at f912
              rw [show (7 : Int32).toInt = 7 from by decide] at f912
              obtain ⟨s929, e930⟩ : ∃ s9 : p_S, p_num pb pn 1 7 s892 = s9 := ⟨_, rfl⟩
              rw [e930] at f912
              have := f912.w
              clear z883 z884 z885
              have q931 := J905.keep t879 (by decide) q894
              have t932 := J905.up t895
              have q933 := J905.keep t879 (by decide) q899
              refine tr_iastR (k := 8) I906 R909 (I906.up h_o0) q933 t915 (by decide) (by decide) (fun lo hi h => by cases h; have := R909.1 15 _ _ rfl; have := R909.1 16 _ _ rfl; have := R909.1 19 _ _ rfl; exact ⟨by show ((-1) : Int) ≤ v908.toInt; omega, by show v908.toInt ≤ (720 : Int); omega⟩) (Or.inl (by decide)) d_TrustDeskModel_readClause_147 (vp_in_iff.mpr (by have := R909.1 15 _ _ rfl; have := R909.1 16 _ _ rfl; have := R909.1 19 _ _ rfl; omega)) (fun M934 I935 K936 R937 E938 A939 V940 => ?_)
              have z941 := (V940 15)
              have z942 := (V940 16)
              have z943 := (V940 17)
              have z944 := (V940 19)
              have z945 := (V940 22).trans z918
              have z946 := (V940 24).trans z919
              have z947 := (A939 5 (by decide) rfl 44).trans z920
              have z948 := (A939 6 (by decide) rfl 44).trans z921
              have z949 := (A939 7 (by decide) rfl ((880 + ra M0 o0 6 44).toNat)).trans z922
              have z950 := (A939 10 (by decide) rfl ((880 + ra M0 o0 6 44).toNat)).trans z923
              have E951 : rE M0 M934 o0 0 2 := E924.same (fun k _ _ => V940 k) (fun k h1 h2 => A939 k (by omega) (by rcases (show k = 4 ∨ k = 5 by omega) with rfl | rfl <;> rfl))
              have h952 : (880 + ra M0 o0 6 44).toNat = v869.toNatClampNeg := by have := mz_nat9 (i := v869) (by have := R909.1 15 _ _ rfl; have := R909.1 16 _ _ rfl; have := R909.1 19 _ _ rfl; omega); have := R909.1 15 _ _ rfl; have := R909.1 16 _ _ rfl; have := R909.1 19 _ _ rfl; omega
              have z953 : ra M934 o0 8 ((880 + ra M0 o0 6 44).toNat) = v908.toInt := (E938 _).trans (if_pos h952)
              have K954 : rK M0 M934 o0 ((880 + ra M0 o0 6 44).toNat) := K925.st A939 E938 (by have := mz_nat9 (i := v869) (by have := R909.1 15 _ _ rfl; have := R909.1 16 _ _ rfl; have := R909.1 19 _ _ rfl; omega); have := R909.1 15 _ _ rfl; have := R909.1 16 _ _ rfl; have := R909.1 19 _ _ rfl; omega)
              have K955 : nN M934 o0 := K926.same (sA_a A939 (by decide +kernel)) (sF_a V940)
              have K956 : ∀ i : Nat, i ≠ 44 → ra M934 o0 6 i = ra M0 o0 6 i := (by have e9 := ((sA_a A939 (by decide +kernel)) : sA [6] _ _ _) 6 rfl; rw [e9]; exact K927)
              have K957 : pN M934 o0 pn pN9 := K928.same (sA_a A939 (by decide +kernel)) (sF_a V940)
              have Z9958 : pO M934 o0 pb pn pa s929 := f912.same (fun k _ _ => V940 k) (V940 23) (A939 13 (by decide) rfl)
              clear z918 z919 z920 z921 z922 z923
              refine mv_aload_n d_TrustDeskModel_readClause_148 rfl rfl ?_
              obtain ⟨a960, q959, t_a960⟩ := tm_atR I935 t914 (k := 9) rfl
              refine tr_getK q959 d_TrustDeskModel_readClause_149 f_TrustDeskModel_32_13 ?_
              refine mv_iload_n d_TrustDeskModel_readClause_152 rfl rfl ?_
              refine mv_aload_n d_TrustDeskModel_readClause_153 rfl rfl ?_
              refine mv_iconst (v := 1) d_TrustDeskModel_readClause_154 (by decide) ?_
              refine mv_aload_n d_TrustDeskModel_readClause_155 rfl rfl ?_
              refine tr_getK (k := 8) (K936 _ 13 8 _ q933) d_TrustDeskModel_readClause_156 f_TrustDeskModel_29_13 ?_
              refine mv_iload_n d_TrustDeskModel_readClause_159 rfl rfl ?_
              refine tr_ialdR (o := o0) (k := 8) I935 (K936 _ 13 8 _ q933) t915 (by decide) d_TrustDeskModel_readClause_160 (vp_in_iff.mpr (by have := R937.1 15 _ _ rfl; have := R937.1 16 _ _ rfl; have := R937.1 19 _ _ rfl; omega)) (fun v961 e962 => ?_)
              have := R937.a (k := 8) rfl (v869 : Int32).toNatClampNeg
              have h963 : (880 + ra M0 o0 6 44).toNat = v869.toNatClampNeg := by have := mz_nat9 (i := v869) (by have := R937.1 15 _ _ rfl; have := R937.1 16 _ _ rfl; have := R937.1 19 _ _ rfl; omega); have := R937.1 15 _ _ rfl; have := R937.1 16 _ _ rfl; have := R937.1 19 _ _ rfl; omega
              have z964 : v961.toInt = ra M934 o0 8 ((880 + ra M0 o0 6 44).toNat) := by rw [e962, h963]
              have : v961.toInt = _ := Eq.trans z964 z953
              obtain ⟨_, b971, -⟩ := I935.1 _ _ t914
              have : (1 : Int32).toInt = 1 := by decide
              refine mv_callV (kc' := 0) (ks' := 0) (As := [.int 1, .int v961]) (st9 := [.int v961, .int 1, .ref o0, .int v869, .ref a960]) d_TrustDeskModel_readClause_161 lV_TrustDeskModel_317 b971 rfl (tc_TrustDeskModel_number_x (d := (d + 23)) (x9 := x9) (o0 := o0) (x1 := 1) (x2 := v961) t914 R937 E951.1 (E951.s yS (by decide)) Z9958 I935.start) rfl (Nat.le_of_ble_eq_true rfl) (Nat.le_of_ble_eq_true rfl) (Nat.le_of_ble_eq_true rfl) (hst := rfl) (fun b965r M966 n967 b965 => ?_)
              obtain ⟨T968, J969, v972, rfl, R973, f974, f975, f976, f977⟩ := b965
              have I970 := I935.call J969 (tm_sub (by decide)) (Or.inl rfl)
              have t978 := J969.up t914
              have t979 := J969.up t_a960
              have := f974.2.1
              have f980 := Im.i f974.w.2
              have f981 := Im.i f974.w2
              replace f977 := Im.i f977
              have z982 := (rv_c I935 J969 (I935.up h_o0) (k := 22) rfl).trans z945
              have z983 := (rv_c I935 J969 (I935.up h_o0) (k := 24) rfl).trans z946
              have z984 := (ra_call I935 J969 (I935.up h_o0) (k := 5) rfl rfl rfl 44).trans z947
              have z985 := (ra_call I935 J969 (I935.up h_o0) (k := 6) rfl rfl rfl 44).trans z948
              have z986 := (ra_call I935 J969 (I935.up h_o0) (k := 7) rfl rfl rfl ((880 + ra M0 o0 6 44).toNat)).trans z949
              have z987 := (ra_call I935 J969 (I935.up h_o0) (k := 10) rfl rfl rfl ((880 + ra M0 o0 6 44).toNat)).trans z950
              have z988 := (ra_call I935 J969 (I935.up h_o0) (k := 8) rfl rfl rfl ((880 + ra M0 o0 6 44).toNat)).trans z953
              have E989 : rE M0 M966 o0 0 3 := E951.trans f974 (by decide) (yR.2 5 _ _ rfl 44).1 (by decide) (by decide)
              have K990 : rK M0 M966 o0 ((880 + ra M0 o0 6 44).toNat) := K954.same (sA_c I935 J969 (I935.up h_o0) (by decide +kernel))
              have K991 : nN M966 o0 := K955.same (sA_c I935 J969 (I935.up h_o0) (by decide +kernel)) (sF_c I935 J969 (I935.up h_o0) (by decide +kernel))
              have K992 : ∀ i : Nat, i ≠ 44 → ra M966 o0 6 i = ra M0 o0 6 i := (by have e9 := ((sA_c I935 J969 (I935.up h_o0) (by decide +kernel)) : sA [6] _ _ _) 6 rfl; rw [e9]; exact K956)
              have K993 : pN M966 o0 pn pN9 := K957.same (sA_c I935 J969 (I935.up h_o0) (by decide +kernel)) (sF_c I935 J969 (I935.up h_o0) (by decide +kernel))
              rw [show (1 : Int32).toInt = 1 from by decide] at f976
              obtain ⟨s994, e995⟩ : ∃ s9 : p_S, p_num pb pn 1 v961.toInt s929 = s9 := ⟨_, rfl⟩
              rw [e995] at f976
              have := f976.w
              have q996 : v961.toInt = v908.toInt := by omega
              have q997 := Im.i (fun h9 : s929.1 = 0 => q996.trans (f913.o (f912.w.trans h9)))
              clear z945 z946 z947 z948 z949 z950 z953
              have q998 := J969.keep t914 (by decide) (K936 _ 13 6 _ q931)
              have t999 := J969.up t932
              have q1000 := J969.keep t914 (by decide) (K936 _ 13 8 _ q933)
              have t1001 := J969.up t915
              have q1002 := J969.keep t914 (by decide) q959
              refine tr_iastR (k := 9) I970 R973 (I970.up h_o0) q1002 t979 (by decide) (by decide) (fun lo hi h => by cases h) (Or.inl (by decide)) d_TrustDeskModel_readClause_164 (vp_in_iff.mpr (by have := R973.1 15 _ _ rfl; have := R973.1 16 _ _ rfl; have := R973.1 19 _ _ rfl; omega)) (fun M1003 I1004 K1005 R1006 E1007 A1008 V1009 => ?_)
              have z1010 := (V1009 15)
              have z1011 := (V1009 16)
              have z1012 := (V1009 17)
              have z1013 := (V1009 19)
              have z1014 := (V1009 22).trans z982
              have z1015 := (V1009 24).trans z983
              have z1016 := (A1008 5 (by decide) rfl 44).trans z984
              have z1017 := (A1008 6 (by decide) rfl 44).trans z985
              have z1018 := (A1008 7 (by decide) rfl ((880 + ra M0 o0 6 44).toNat)).trans z986
              have z1019 := (A1008 10 (by decide) rfl ((880 + ra M0 o0 6 44).toNat)).trans z987
              have z1020 := (A1008 8 (by decide) rfl ((880 + ra M0 o0 6 44).toNat)).trans z988
              have E1021 : rE M0 M1003 o0 0 3 := E989.same (fun k _ _ => V1009 k) (fun k h1 h2 => A1008 k (by omega) (by rcases (show k = 4 ∨ k = 5 by omega) with rfl | rfl <;> rfl))
              have K1022 : rK M0 M1003 o0 ((880 + ra M0 o0 6 44).toNat) := K990.same (sA_a A1008 (by decide +kernel))
              have K1023 : nN M1003 o0 := K991.same (sA_a A1008 (by decide +kernel)) (sF_a V1009)
              have K1024 : ∀ i : Nat, i ≠ 44 → ra M1003 o0 6 i = ra M0 o0 6 i := (by have e9 := ((sA_a A1008 (by decide +kernel)) : sA [6] _ _ _) 6 rfl; rw [e9]; exact K992)
              have K1025 : pN M1003 o0 pn pN9 := K993.same (sA_a A1008 (by decide +kernel)) (sF_a V1009)
              have Z91026 : pO M1003 o0 pb pn pa s994 := f976.same (fun k _ _ => V1009 k) (V1009 23) (A1008 13 (by decide) rfl)
              clear z982 z983 z984 z985 z986 z987 z988
              refine mv_aload_n d_TrustDeskModel_readClause_165 rfl rfl ?_
              refine mv_bipush (v := 59) d_TrustDeskModel_readClause_166 (by decide) ?_
              obtain ⟨_, b1033, -⟩ := I1004.1 _ _ t978
              have : (59 : Int32).toInt = 59 := by decide
              refine mv_callV (kc' := 0) (ks' := 0) (As := [.int 59]) (st9 := [.int 59, .ref o0]) d_TrustDeskModel_readClause_168 lV_TrustDeskModel_291 b1033 rfl (tc_TrustDeskModel_wantSign_x (d := (d + 23)) (x9 := x9) (o0 := o0) (x1 := 59) t978 R1006 E1021.1 (E1021.s yS (by decide)) (by decide) Z91026 I1004.start) rfl (Nat.le_of_ble_eq_true rfl) (Nat.le_of_ble_eq_true rfl) (Nat.le_of_ble_eq_true rfl) (hst := rfl) (fun b1027r M1028 n1029 b1027 => ?_)
              obtain ⟨T1030, J1031, rfl, R1034, f1035, f1036⟩ := b1027
              have I1032 := I1004.call J1031 (tm_sub (by decide)) (Or.inl rfl)
              have t1037 := J1031.up t978
              have := f1035.2.1
              have f1038 := Im.i f1035.w.2
              have f1039 := Im.i f1035.w2
              have z1040 := (rv_c I1004 J1031 (I1004.up h_o0) (k := 22) rfl).trans z1014
              have z1041 := (rv_c I1004 J1031 (I1004.up h_o0) (k := 24) rfl).trans z1015
              have z1042 := (ra_call I1004 J1031 (I1004.up h_o0) (k := 5) rfl rfl rfl 44).trans z1016
              have z1043 := (ra_call I1004 J1031 (I1004.up h_o0) (k := 6) rfl rfl rfl 44).trans z1017
              have z1044 := (ra_call I1004 J1031 (I1004.up h_o0) (k := 7) rfl rfl rfl ((880 + ra M0 o0 6 44).toNat)).trans z1018
              have z1045 := (ra_call I1004 J1031 (I1004.up h_o0) (k := 10) rfl rfl rfl ((880 + ra M0 o0 6 44).toNat)).trans z1019
              have z1046 := (ra_call I1004 J1031 (I1004.up h_o0) (k := 8) rfl rfl rfl ((880 + ra M0 o0 6 44).toNat)).trans z1020
              have E1047 : rE M0 M1028 o0 0 4 := E1021.trans f1035 (by decide) (yR.2 5 _ _ rfl 44).1 (by decide) (by decide)
              have K1048 : rK M0 M1028 o0 ((880 + ra M0 o0 6 44).toNat) := K1022.same (sA_c I1004 J1031 (I1004.up h_o0) (by decide +kernel))
              have K1049 : nN M1028 o0 := K1023.same (sA_c I1004 J1031 (I1004.up h_o0) (by decide +kernel)) (sF_c I1004 J1031 (I1004.up h_o0) (by decide +kernel))
              have K1050 : ∀ i : Nat, i ≠ 44 → ra M1028 o0 6 i = ra M0 o0 6 i := (by have e9 := ((sA_c I1004 J1031 (I1004.up h_o0) (by decide +kernel)) : sA [6] _ _ _) 6 rfl; rw [e9]; exact K1024)
              have K1051 : pN M1028 o0 pn pN9 := K1025.same (sA_c I1004 J1031 (I1004.up h_o0) (by decide +kernel)) (sF_c I1004 J1031 (I1004.up h_o0) (by decide +kernel))
              rw [show (59 : Int32).toInt = 59 from by decide] at f1036
              obtain ⟨s1052, e1053⟩ : ∃ s9 : p_S, p_sg pb pn 59 s994 = s9 := ⟨_, rfl⟩
              rw [e1053] at f1036
              have := f1036.w
              clear z1014 z1015 z1016 z1017 z1018 z1019 z1020
              have q1054 := J1031.keep t978 (by decide) (K1005 _ 13 6 _ q998)
              have t1055 := J1031.up t999
              have q1056 := J1031.keep t978 (by decide) (K1005 _ 13 8 _ q1000)
              have t1057 := J1031.up t1001
              have q1058 := J1031.keep t978 (by decide) (K1005 _ 13 9 _ q1002)
              have t1059 := J1031.up t979
              refine mv_aload_n d_TrustDeskModel_readClause_171 rfl rfl ?_
              obtain ⟨a1061, q1060, t_a1061⟩ := tm_atR I1032 t1037 (k := 12) rfl
              refine tr_getK q1060 d_TrustDeskModel_readClause_172 f_TrustDeskModel_41_13 ?_
              refine mv_iload_n d_TrustDeskModel_readClause_175 rfl rfl ?_
              refine mv_aload_n d_TrustDeskModel_readClause_176 rfl rfl ?_
              obtain ⟨a1063, q1062, t_a1063⟩ := tm_atR I1032 t1037 (k := 5) rfl
              refine tr_getK q1062 d_TrustDeskModel_readClause_177 f_TrustDeskModel_20_13 ?_
              refine mv_bipush (v := 44) d_TrustDeskModel_readClause_180 (by decide) ?_
              refine tr_ialdR (o := o0) (k := 5) I1032 q1062 t_a1063 (by decide) d_TrustDeskModel_readClause_182 (by unfold vp_in; decide) (fun v1064 e1065 => ?_)
              have := R1034.a (k := 5) rfl (44 : Int32).toNatClampNeg
              have : v1064.toInt = ra M1028 o0 5 44 := e1065
              have : v1064.toInt = _ := Eq.trans e1065 z1042
              refine tr_iastR (k := 12) I1032 R1034 (I1032.up h_o0) q1060 t_a1061 (by decide) (by decide) (fun lo hi h => by cases h; have := R1034.1 15 _ _ rfl; have := R1034.1 16 _ _ rfl; have := R1034.1 19 _ _ rfl; exact ⟨by show (0 : Int) ≤ v1064.toInt; omega, by show v1064.toInt ≤ (400 : Int); omega⟩) (Or.inl (by decide)) d_TrustDeskModel_readClause_183 (vp_in_iff.mpr (by have := R1034.1 15 _ _ rfl; have := R1034.1 16 _ _ rfl; have := R1034.1 19 _ _ rfl; omega)) (fun M1066 I1067 K1068 R1069 E1070 A1071 V1072 => ?_)
              have z1073 := (V1072 15)
              have z1074 := (V1072 16)
              have z1075 := (V1072 17)
              have z1076 := (V1072 19)
              have z1077 := (V1072 22).trans z1040
              have z1078 := (V1072 24).trans z1041
              have z1079 := (A1071 5 (by decide) rfl 44).trans z1042
              have z1080 := (A1071 6 (by decide) rfl 44).trans z1043
              have z1081 := (A1071 7 (by decide) rfl ((880 + ra M0 o0 6 44).toNat)).trans z1044
              have z1082 := (A1071 10 (by decide) rfl ((880 + ra M0 o0 6 44).toNat)).trans z1045
              have z1083 := (A1071 8 (by decide) rfl ((880 + ra M0 o0 6 44).toNat)).trans z1046
              have E1084 : rE M0 M1066 o0 0 4 := E1047.same (fun k _ _ => V1072 k) (fun k h1 h2 => A1071 k (by omega) (by rcases (show k = 4 ∨ k = 5 by omega) with rfl | rfl <;> rfl))
              have h1085 : (880 + ra M0 o0 6 44).toNat = v869.toNatClampNeg := by have := mz_nat9 (i := v869) (by have := R1034.1 15 _ _ rfl; have := R1034.1 16 _ _ rfl; have := R1034.1 19 _ _ rfl; omega); have := R1034.1 15 _ _ rfl; have := R1034.1 16 _ _ rfl; have := R1034.1 19 _ _ rfl; omega
              have z1086 : ra M1066 o0 12 ((880 + ra M0 o0 6 44).toNat) = v1064.toInt := (E1070 _).trans (if_pos h1085)
              have K1087 : rK M0 M1066 o0 ((880 + ra M0 o0 6 44).toNat) := K1048.st A1071 E1070 (by have := mz_nat9 (i := v869) (by have := R1034.1 15 _ _ rfl; have := R1034.1 16 _ _ rfl; have := R1034.1 19 _ _ rfl; omega); have := R1034.1 15 _ _ rfl; have := R1034.1 16 _ _ rfl; have := R1034.1 19 _ _ rfl; omega)
              have K1088 : nN M1066 o0 := K1049.same (sA_a A1071 (by decide +kernel)) (sF_a V1072)
              have K1089 : ∀ i : Nat, i ≠ 44 → ra M1066 o0 6 i = ra M0 o0 6 i := (by have e9 := ((sA_a A1071 (by decide +kernel)) : sA [6] _ _ _) 6 rfl; rw [e9]; exact K1050)
              have K1090 : pN M1066 o0 pn pN9 := K1051.same (sA_a A1071 (by decide +kernel)) (sF_a V1072)
              have Z91091 : pO M1066 o0 pb pn pa s1052 := f1036.same (fun k _ _ => V1072 k) (V1072 23) (A1071 13 (by decide) rfl)
              clear z1040 z1041 z1042 z1043 z1044 z1045 z1046
              exact mv_vret d_TrustDeskModel_readClause_184 rfl ⟨_, I1067, rfl, R1069, (rW.of E1084.1 (E1084.s yS (by decide)) (fun w9 => by have u91 : rv M1028 o0 19 = 0 := (by omega); have := f1038.o u91; have := f1039.o u91; have u92 : rv M966 o0 19 = 0 := (by omega); have := f980.o u92; have := f981.o u92; have := f977.o u92; have u93 : rv M902 o0 19 = 0 := (by omega); have := f916.o u93; have := f917.o u93; have := f913.o u93; have u94 : rv M863 o0 19 = 0 := (by omega); have := f880.o u94; have := f881.o u94; exact rG.step yG yR E1084 w9 K1087 (by have := yR.2 6 _ _ rfl 44; omega) (by have := R1069.1 15 _ _ rfl; have := R1069.1 16 _ _ rfl; have := R1069.1 19 _ _ rfl; omega) (by have := R1069.1 15 _ _ rfl; have := R1069.1 16 _ _ rfl; have := R1069.1 19 _ _ rfl; omega) (fun h9 => by exfalso; have := R1069.1 15 _ _ rfl; have := R1069.1 16 _ _ rfl; have := R1069.1 19 _ _ rfl; omega) (fun h9 => (by have := R1069.1 15 _ _ rfl; have := R1069.1 16 _ _ rfl; have := R1069.1 19 _ _ rfl; omega)) (by have := R1069.1 15 _ _ rfl; have := R1069.1 16 _ _ rfl; have := R1069.1 19 _ _ rfl; omega) K1088)), (rO.of E1084 K1087 (by have := yR.2 6 _ _ rfl 44; omega)), ⟨E1084.2.1, fun w9 => by skip; have := E1084.w2 w9; omega⟩, (fun w9 => by have u91 : rv M1028 o0 19 = 0 := (by omega); have := f1038.o u91; have := f1039.o u91; have u92 : rv M966 o0 19 = 0 := (by omega); have := f980.o u92; have := f981.o u92; have := f977.o u92; have u93 : rv M902 o0 19 = 0 := (by omega); have := f916.o u93; have := f917.o u93; have := f913.o u93; have u94 : rv M863 o0 19 = 0 := (by omega); have := f880.o u94; have := f881.o u94; omega), (fun h9 _ => absurd h9 (f17.o (by have := R1069.1 15 _ _ rfl; have := R1069.1 16 _ _ rfl; have := R1069.1 19 _ _ rfl; omega))), (by have := R1069.1 15 _ _ rfl; have := R1069.1 16 _ _ rfl; have := R1069.1 19 _ _ rfl; omega), (by rw [show (p_cl pb pn pa (pc9, pN9, ps)).2 = s1052 from (congrArg Prod.snd (p_cl_t (yO.w.symm.trans yw) (pW1 (Im.o d781) (by omega)) (Im.o h820))).trans (by show _ = _; (try dsimp only); unfold p_tru; simp only [e893, e930]; rw [p_num_hi q997.o]; (try (first | (simp only [e893, e930, e995, e1053]; done) | (simp only [e893, e930, e995, e1053]; first | exact p_sg_Z _ (by omega) | omega))))]; exact Z91091), (fun w9 => by have u91 : rv M1028 o0 19 = 0 := (by omega); have := f1038.o u91; have := f1039.o u91; have u92 : rv M966 o0 19 = 0 := (by omega); have := f980.o u92; have := f981.o u92; have := f977.o u92; have u93 : rv M902 o0 19 = 0 := (by omega); have := f916.o u93; have := f917.o u93; have := f913.o u93; have u94 : rv M863 o0 19 = 0 := (by omega); have := f880.o u94; have := f881.o u94; omega), (fun w9 => by have e9 : (p_cl pb pn pa (pc9, pN9, ps)).1 = pN9 := (congrArg Prod.fst (p_cl_t (yO.w.symm.trans yw) (pW1 (Im.o d781) (by omega)) (Im.o h820))).trans (by (try rw [← e893]); rfl); rw [e9]; exact K1090), K1089⟩
            · refine mv_bipush (v := 7) d_TrustDeskModel_readClause_100 (by decide) ?_
              refine mv_goto (tgt := 107) d_TrustDeskModel_readClause_102 (by decide) ?_
              obtain ⟨_, b1098, -⟩ := I832.1 _ _ t841
              have : (7 : Int32).toInt = 7 := by decide
              refine mv_callV (kc' := 0) (ks' := 0) (As := [.int 7]) (st9 := [.int 7, .ref o0]) d_TrustDeskModel_readClause_107 lV_TrustDeskModel_342 b1098 rfl (tc_TrustDeskModel_begin_a (d := (d + 23)) (x9 := x9) (o0 := o0) (x1 := 7) t841 R837 E850.1 (E850.s yS (by decide)) (by have := R837.1 15 _ _ rfl; have := R837.1 16 _ _ rfl; have := R837.1 19 _ _ rfl; omega) (by have := f838.o (by omega); omega) (by have := R837.1 15 _ _ rfl; have := R837.1 16 _ _ rfl; have := R837.1 19 _ _ rfl; omega) Z9855 I832.start) rfl (Nat.le_of_ble_eq_true rfl) (Nat.le_of_ble_eq_true rfl) (Nat.le_of_ble_eq_true rfl) (hst := rfl) (fun b1092r M1093 n1094 b1092 => ?_)
              obtain ⟨T1095, J1096, v1099, rfl, R1100, f1101, f1102, f1103, f1104, f1105, f1106, f1107, f1108⟩ := b1092
              have I1097 := I832.call J1096 (tm_sub (by decide)) (Or.inl rfl)
              have t1109 := J1096.up t841
              have := f1101.2.1
              have f1110 := Im.i f1101.w.2
              have f1111 := Im.i f1101.w2
              have z1112 := (rv_c I832 J1096 (I832.up h_o0) (k := 19) rfl).trans z845
              have z1113 := (rv_c I832 J1096 (I832.up h_o0) (k := 22) rfl).trans z846
              have z1114 := (rv_c I832 J1096 (I832.up h_o0) (k := 24) rfl).trans z847
              have z1115 := (ra_call I832 J1096 (I832.up h_o0) (k := 5) rfl rfl rfl 44).trans z848
              have E1116 : rE M0 M1093 o0 0 1 := E850.trans f1101 (by decide) (yR.2 5 _ _ rfl 44).1 (by decide) (by decide)
              have h1117 : (880 + ra M828 o0 6 44).toNat = (880 + ra M0 o0 6 44).toNat := by omega
              rw [h1117] at f1104 f1105 f1106
              have K1118 : rK M0 M1093 o0 ((880 + ra M0 o0 6 44).toNat) := K851.trans f1106
              have K1119 : nN M1093 o0 := K852.same (sA_c I832 J1096 (I832.up h_o0) (by decide +kernel)) (sF_c I832 J1096 (I832.up h_o0) (by decide +kernel))
              have K1120 : ∀ i : Nat, i ≠ 44 → ra M1093 o0 6 i = ra M0 o0 6 i := (fun i h9 => (f1108 i h9).trans (K853 i h9))
              have K1121 : pN M1093 o0 pn pN9 := K854.same (sA_c I832 J1096 (I832.up h_o0) (by decide +kernel)) (sF_c I832 J1096 (I832.up h_o0) (by decide +kernel))
              obtain ⟨s1122, e1123⟩ : ∃ s9 : p_S, p_nx ps = s9 := ⟨_, rfl⟩
              rw [e1123] at f1107
              have := f1107.w
              clear z846 z847
              have q1124 := J1096.keep t841 (by decide) q857
              have t1125 := J1096.up t858
              have q1126 := J1096.keep t841 (by decide) q859
              refine mv_istore_n (lv' := [(3, .int v1099), (2, .int v834), (1, .int v11), (0, .ref o0)]) d_TrustDeskModel_readClause_110 rfl (by decide) rfl ?_
              refine mv_iload_n d_TrustDeskModel_readClause_111 rfl rfl ?_
              have := mz_hi v11
              refine mv_if_eqZ (tgt := 123) (a := v11.toInt) d_TrustDeskModel_readClause_112 (by decide) rfl (fun b1127 => ?_) (fun b1127 => absurd b1127 (by omega))
              refine mv_iload_n d_TrustDeskModel_readClause_123 rfl rfl ?_
              have := mz_hi v834
              refine mv_if_eqZ (tgt := 135) (a := v834.toInt) d_TrustDeskModel_readClause_124 (by decide) rfl (fun b1128 => absurd b1128 (by omega)) (fun b1128 => ?_)
              refine mv_aload_n d_TrustDeskModel_readClause_127 rfl rfl ?_
              refine mv_iload_n d_TrustDeskModel_readClause_128 rfl rfl ?_
              obtain ⟨_, b1135, -⟩ := I1097.1 _ _ t1109
              refine mv_callV (kc' := 0) (ks' := 0) (As := [.int v1099]) (st9 := [.int v1099, .ref o0]) d_TrustDeskModel_readClause_129 lV_TrustDeskModel_348 b1135 rfl (tc_TrustDeskModel_readMarks_x (d := (d + 22)) (x9 := x9) (o0 := o0) (x1 := v1099) t1109 R1100 E1116.1 (E1116.s yS (by decide)) (by have := R1100.1 15 _ _ rfl; have := R1100.1 16 _ _ rfl; have := R1100.1 19 _ _ rfl; omega) f1107 I1097.start) rfl (Nat.le_of_ble_eq_true rfl) (Nat.le_of_ble_eq_true rfl) (Nat.le_of_ble_eq_true rfl) (hst := rfl) (fun b1129r M1130 n1131 b1129 => ?_)
              obtain ⟨T1132, J1133, rfl, R1136, f1137, f1138, f1139, f1140⟩ := b1129
              have I1134 := I1097.call J1133 (tm_sub (by decide)) (Or.inl rfl)
              have t1141 := J1133.up t1109
              have := f1137.2.1
              have f1142 := Im.i f1137.w.2
              have f1143 := Im.i f1137.w2
              have z1144 := (rv_c I1097 J1133 (I1097.up h_o0) (k := 22) rfl).trans z1113
              have z1145 := (rv_c I1097 J1133 (I1097.up h_o0) (k := 24) rfl).trans z1114
              have z1146 := (ra_call I1097 J1133 (I1097.up h_o0) (k := 5) rfl rfl rfl 44).trans z1115
              have z1147 := (ra_call I1097 J1133 (I1097.up h_o0) (k := 6) rfl rfl rfl 44)
              have z1148 := (ra_call I1097 J1133 (I1097.up h_o0) (k := 7) rfl rfl rfl ((880 + ra M0 o0 6 44).toNat))
              have z1149 := (ra_call I1097 J1133 (I1097.up h_o0) (k := 10) rfl rfl rfl ((880 + ra M0 o0 6 44).toNat))
              have E1150 : rE M0 M1130 o0 0 1 := E1116.trans f1137 (by decide) (yR.2 5 _ _ rfl 44).1 (by decide) (by decide)
              have h1151 : v1099.toNatClampNeg = (880 + ra M0 o0 6 44).toNat := by have := mz_nat9 (i := v1099) (by have := R1100.1 15 _ _ rfl; have := R1100.1 16 _ _ rfl; have := R1100.1 19 _ _ rfl; omega); have := R1100.1 15 _ _ rfl; have := R1100.1 16 _ _ rfl; have := R1100.1 19 _ _ rfl; omega
              rw [h1151] at f1138 f1139
              have K1152 : rK M0 M1130 o0 ((880 + ra M0 o0 6 44).toNat) := K1118.one8 (sA_c I1097 J1133 (I1097.up h_o0) (by decide)) f1138
              have K1153 : nN M1130 o0 := K1119.same (sA_c I1097 J1133 (I1097.up h_o0) (by decide +kernel)) (sF_c I1097 J1133 (I1097.up h_o0) (by decide +kernel))
              have K1154 : ∀ i : Nat, i ≠ 44 → ra M1130 o0 6 i = ra M0 o0 6 i := (by have e9 := ((sA_c I1097 J1133 (I1097.up h_o0) (by decide +kernel)) : sA [6] _ _ _) 6 rfl; rw [e9]; exact K1120)
              have K1155 : pN M1130 o0 pn pN9 := K1121.same (sA_c I1097 J1133 (I1097.up h_o0) (by decide +kernel)) (sF_c I1097 J1133 (I1097.up h_o0) (by decide +kernel))
              obtain ⟨s1156, e1157⟩ : ∃ s9 : p_S, p_mar pb pn s1122 = s9 := ⟨_, rfl⟩
              rw [e1157] at f1140
              have := f1140.w
              clear z1113 z1114 z1115
              have q1158 := J1133.keep t1109 (by decide) q1124
              have t1159 := J1133.up t1125
              refine mv_goto (tgt := 165) d_TrustDeskModel_readClause_132 (by decide) ?_
              refine mv_aload_n d_TrustDeskModel_readClause_165 rfl rfl ?_
              refine mv_bipush (v := 59) d_TrustDeskModel_readClause_166 (by decide) ?_
              obtain ⟨_, b1166, -⟩ := I1134.1 _ _ t1141
              have : (59 : Int32).toInt = 59 := by decide
              refine mv_callV (kc' := 0) (ks' := 0) (As := [.int 59]) (st9 := [.int 59, .ref o0]) d_TrustDeskModel_readClause_168 lV_TrustDeskModel_291 b1166 rfl (tc_TrustDeskModel_wantSign_x (d := (d + 23)) (x9 := x9) (o0 := o0) (x1 := 59) t1141 R1136 E1150.1 (E1150.s yS (by decide)) (by decide) f1140 I1134.start) rfl (Nat.le_of_ble_eq_true rfl) (Nat.le_of_ble_eq_true rfl) (Nat.le_of_ble_eq_true rfl) (hst := rfl) (fun b1160r M1161 n1162 b1160 => ?_)
              obtain ⟨T1163, J1164, rfl, R1167, f1168, f1169⟩ := b1160
              have I1165 := I1134.call J1164 (tm_sub (by decide)) (Or.inl rfl)
              have t1170 := J1164.up t1141
              have := f1168.2.1
              have f1171 := Im.i f1168.w.2
              have f1172 := Im.i f1168.w2
              have z1173 := (rv_c I1134 J1164 (I1134.up h_o0) (k := 22) rfl).trans z1144
              have z1174 := (rv_c I1134 J1164 (I1134.up h_o0) (k := 24) rfl).trans z1145
              have z1175 := (ra_call I1134 J1164 (I1134.up h_o0) (k := 5) rfl rfl rfl 44).trans z1146
              have z1176 := (ra_call I1134 J1164 (I1134.up h_o0) (k := 6) rfl rfl rfl 44).trans z1147
              have z1177 := (ra_call I1134 J1164 (I1134.up h_o0) (k := 7) rfl rfl rfl ((880 + ra M0 o0 6 44).toNat)).trans z1148
              have z1178 := (ra_call I1134 J1164 (I1134.up h_o0) (k := 10) rfl rfl rfl ((880 + ra M0 o0 6 44).toNat)).trans z1149
              have z1179 := (ra_call I1134 J1164 (I1134.up h_o0) (k := 8) rfl rfl rfl ((880 + ra M0 o0 6 44).toNat))
              have E1180 : rE M0 M1161 o0 0 2 := E1150.trans f1168 (by decide) (yR.2 5 _ _ rfl 44).1 (by decide) (by decide)
              have K1181 : rK M0 M1161 o0 ((880 + ra M0 o0 6 44).toNat) := K1152.same (sA_c I1134 J1164 (I1134.up h_o0) (by decide +kernel))
              have K1182 : nN M1161 o0 := K1153.same (sA_c I1134 J1164 (I1134.up h_o0) (by decide +kernel)) (sF_c I1134 J1164 (I1134.up h_o0) (by decide +kernel))
              have K1183 : ∀ i : Nat, i ≠ 44 → ra M1161 o0 6 i = ra M0 o0 6 i := (by have e9 := ((sA_c I1134 J1164 (I1134.up h_o0) (by decide +kernel)) : sA [6] _ _ _) 6 rfl; rw [e9]; exact K1154)
              have K1184 : pN M1161 o0 pn pN9 := K1155.same (sA_c I1134 J1164 (I1134.up h_o0) (by decide +kernel)) (sF_c I1134 J1164 (I1134.up h_o0) (by decide +kernel))
              rw [show (59 : Int32).toInt = 59 from by decide] at f1169
              obtain ⟨s1185, e1186⟩ : ∃ s9 : p_S, p_sg pb pn 59 s1156 = s9 := ⟨_, rfl⟩
              rw [e1186] at f1169
              have := f1169.w
              clear z1144 z1145 z1146 z1147 z1148 z1149
              have q1187 := J1164.keep t1141 (by decide) q1158
              have t1188 := J1164.up t1159
              refine mv_aload_n d_TrustDeskModel_readClause_171 rfl rfl ?_
              obtain ⟨a1190, q1189, t_a1190⟩ := tm_atR I1165 t1170 (k := 12) rfl
              refine tr_getK q1189 d_TrustDeskModel_readClause_172 f_TrustDeskModel_41_13 ?_
              refine mv_iload_n d_TrustDeskModel_readClause_175 rfl rfl ?_
              refine mv_aload_n d_TrustDeskModel_readClause_176 rfl rfl ?_
              obtain ⟨a1192, q1191, t_a1192⟩ := tm_atR I1165 t1170 (k := 5) rfl
              refine tr_getK q1191 d_TrustDeskModel_readClause_177 f_TrustDeskModel_20_13 ?_
              refine mv_bipush (v := 44) d_TrustDeskModel_readClause_180 (by decide) ?_
              refine tr_ialdR (o := o0) (k := 5) I1165 q1191 t_a1192 (by decide) d_TrustDeskModel_readClause_182 (by unfold vp_in; decide) (fun v1193 e1194 => ?_)
              have := R1167.a (k := 5) rfl (44 : Int32).toNatClampNeg
              have : v1193.toInt = ra M1161 o0 5 44 := e1194
              have : v1193.toInt = _ := Eq.trans e1194 z1175
              refine tr_iastR (k := 12) I1165 R1167 (I1165.up h_o0) q1189 t_a1190 (by decide) (by decide) (fun lo hi h => by cases h; have := R1167.1 15 _ _ rfl; have := R1167.1 16 _ _ rfl; have := R1167.1 19 _ _ rfl; exact ⟨by show (0 : Int) ≤ v1193.toInt; omega, by show v1193.toInt ≤ (400 : Int); omega⟩) (Or.inl (by decide)) d_TrustDeskModel_readClause_183 (vp_in_iff.mpr (by have := R1167.1 15 _ _ rfl; have := R1167.1 16 _ _ rfl; have := R1167.1 19 _ _ rfl; omega)) (fun M1195 I1196 K1197 R1198 E1199 A1200 V1201 => ?_)
              have z1202 := (V1201 15)
              have z1203 := (V1201 16)
              have z1204 := (V1201 17)
              have z1205 := (V1201 19)
              have z1206 := (V1201 22).trans z1173
              have z1207 := (V1201 24).trans z1174
              have z1208 := (A1200 5 (by decide) rfl 44).trans z1175
              have z1209 := (A1200 6 (by decide) rfl 44).trans z1176
              have z1210 := (A1200 7 (by decide) rfl ((880 + ra M0 o0 6 44).toNat)).trans z1177
              have z1211 := (A1200 10 (by decide) rfl ((880 + ra M0 o0 6 44).toNat)).trans z1178
              have z1212 := (A1200 8 (by decide) rfl ((880 + ra M0 o0 6 44).toNat)).trans z1179
              have E1213 : rE M0 M1195 o0 0 2 := E1180.same (fun k _ _ => V1201 k) (fun k h1 h2 => A1200 k (by omega) (by rcases (show k = 4 ∨ k = 5 by omega) with rfl | rfl <;> rfl))
              have h1214 : (880 + ra M0 o0 6 44).toNat = v1099.toNatClampNeg := by have := mz_nat9 (i := v1099) (by have := R1167.1 15 _ _ rfl; have := R1167.1 16 _ _ rfl; have := R1167.1 19 _ _ rfl; omega); have := R1167.1 15 _ _ rfl; have := R1167.1 16 _ _ rfl; have := R1167.1 19 _ _ rfl; omega
              have z1215 : ra M1195 o0 12 ((880 + ra M0 o0 6 44).toNat) = v1193.toInt := (E1199 _).trans (if_pos h1214)
              have K1216 : rK M0 M1195 o0 ((880 + ra M0 o0 6 44).toNat) := K1181.st A1200 E1199 (by have := mz_nat9 (i := v1099) (by have := R1167.1 15 _ _ rfl; have := R1167.1 16 _ _ rfl; have := R1167.1 19 _ _ rfl; omega); have := R1167.1 15 _ _ rfl; have := R1167.1 16 _ _ rfl; have := R1167.1 19 _ _ rfl; omega)
              have K1217 : nN M1195 o0 := K1182.same (sA_a A1200 (by decide +kernel)) (sF_a V1201)
              have K1218 : ∀ i : Nat, i ≠ 44 → ra M1195 o0 6 i = ra M0 o0 6 i := (by have e9 := ((sA_a A1200 (by decide +kernel)) : sA [6] _ _ _) 6 rfl; rw [e9]; exact K1183)
              have K1219 : pN M1195 o0 pn pN9 := K1184.same (sA_a A1200 (by decide +kernel)) (sF_a V1201)
              have Z91220 : pO M1195 o0 pb pn pa s1185 := f1169.same (fun k _ _ => V1201 k) (V1201 23) (A1200 13 (by decide) rfl)
              clear z1173 z1174 z1175 z1176 z1177 z1178 z1179
              exact mv_vret d_TrustDeskModel_readClause_184 rfl ⟨_, I1196, rfl, R1198, (rW.of E1213.1 (E1213.s yS (by decide)) (fun w9 => by have u91 : rv M1161 o0 19 = 0 := (by omega); have := f1171.o u91; have := f1172.o u91; have u92 : rv M1130 o0 19 = 0 := (by omega); have := f1142.o u92; have := f1143.o u92; have u93 : rv M1093 o0 19 = 0 := (by omega); have := f1110.o u93; have := f1111.o u93; exact rG.step yG yR E1213 w9 K1216 (by have := yR.2 6 _ _ rfl 44; omega) (by have := R1198.1 15 _ _ rfl; have := R1198.1 16 _ _ rfl; have := R1198.1 19 _ _ rfl; omega) (by have := R1198.1 15 _ _ rfl; have := R1198.1 16 _ _ rfl; have := R1198.1 19 _ _ rfl; omega) (fun h9 => by exfalso; have := R1198.1 15 _ _ rfl; have := R1198.1 16 _ _ rfl; have := R1198.1 19 _ _ rfl; omega) (fun h9 => (by have := R1198.1 15 _ _ rfl; have := R1198.1 16 _ _ rfl; have := R1198.1 19 _ _ rfl; omega)) (by have := R1198.1 15 _ _ rfl; have := R1198.1 16 _ _ rfl; have := R1198.1 19 _ _ rfl; omega) K1217)), (rO.of E1213 K1216 (by have := yR.2 6 _ _ rfl 44; omega)), ⟨E1213.2.1, fun w9 => by skip; have := E1213.w2 w9; omega⟩, (fun w9 => by have u91 : rv M1161 o0 19 = 0 := (by omega); have := f1171.o u91; have := f1172.o u91; have u92 : rv M1130 o0 19 = 0 := (by omega); have := f1142.o u92; have := f1143.o u92; have u93 : rv M1093 o0 19 = 0 := (by omega); have := f1110.o u93; have := f1111.o u93; omega), (fun h9 _ => absurd h9 (f17.o (by have := R1198.1 15 _ _ rfl; have := R1198.1 16 _ _ rfl; have := R1198.1 19 _ _ rfl; omega))), (by have := R1198.1 15 _ _ rfl; have := R1198.1 16 _ _ rfl; have := R1198.1 19 _ _ rfl; omega), (absurd (pW1 (Im.o d856) (by omega)) (pW0 (Im.o d312) (by omega))), (fun w9 => by have u91 : rv M1161 o0 19 = 0 := (by omega); have := f1171.o u91; have := f1172.o u91; have u92 : rv M1130 o0 19 = 0 := (by omega); have := f1142.o u92; have := f1143.o u92; have u93 : rv M1093 o0 19 = 0 := (by omega); have := f1110.o u93; have := f1111.o u93; omega), (absurd (pW1 (Im.o d856) (by omega)) (pW0 (Im.o d312) (by omega))), K1218⟩
      · refine mv_aload_n d_TrustDeskModel_readClause_32 rfl rfl ?_
        refine mv_iconst (v := 1) d_TrustDeskModel_readClause_33 (by decide) ?_
        obtain ⟨_, b1227, -⟩ := I757.1 _ _ t766
        have : (1 : Int32).toInt = 1 := by decide
        refine mv_callV (kc' := 0) (ks' := 0) (As := [.int 1]) (st9 := [.int 1, .ref o0]) d_TrustDeskModel_readClause_34 lV_TrustDeskModel_240 b1227 rfl (tc_TrustDeskModel_fails_x (d := (d + 25)) (x9 := x9) (o0 := o0) (x1 := 1) t766 R762 (by decide) Z9780 I757.start) rfl (Nat.le_of_ble_eq_true rfl) (Nat.le_of_ble_eq_true rfl) (Nat.le_of_ble_eq_true rfl) (hst := rfl) (fun b1221r M1222 n1223 b1221 => ?_)
        obtain ⟨T1224, J1225, rfl, R1228, f1229, f1230⟩ := b1221
        have I1226 := I757.call J1225 (tm_sub (by decide)) (Or.inl rfl)
        have t1231 := J1225.up t766
        have z1232 := (rv_c I757 J1225 (I757.up h_o0) (k := 15) rfl).trans z767
        have z1233 := (rv_c I757 J1225 (I757.up h_o0) (k := 16) rfl).trans z768
        have z1234 := (rv_c I757 J1225 (I757.up h_o0) (k := 17) rfl).trans z769
        have z1235 := (rv_c I757 J1225 (I757.up h_o0) (k := 22) rfl).trans z771
        have z1236 := (rv_c I757 J1225 (I757.up h_o0) (k := 24) rfl).trans z772
        have z1237 := (ra_call I757 J1225 (I757.up h_o0) (k := 5) rfl rfl rfl 44).trans z773
        have z1238 := (ra_call I757 J1225 (I757.up h_o0) (k := 6) rfl rfl rfl 44).trans z774
        have E1239 : rE M0 M1222 o0 0 0 := E775.fails (rE_hv I757 J1225 (I757.up h_o0) 15 18 (by decide)) (rE_ha I757 J1225 (I757.up h_o0) (by decide)) f1229 0 0
        have K1240 : rK M0 M1222 o0 ((880 + ra M0 o0 6 44).toNat) := K776.same (sA_c I757 J1225 (I757.up h_o0) (by decide +kernel))
        have K1241 : nN M1222 o0 := K777.same (sA_c I757 J1225 (I757.up h_o0) (by decide +kernel)) (sF_c I757 J1225 (I757.up h_o0) (by decide +kernel))
        have K1242 : ∀ i : Nat, i ≠ 44 → ra M1222 o0 6 i = ra M0 o0 6 i := (by have e9 := ((sA_c I757 J1225 (I757.up h_o0) (by decide +kernel)) : sA [6] _ _ _) 6 rfl; rw [e9]; exact K778)
        have K1243 : pN M1222 o0 pn pN9 := K779.same (sA_c I757 J1225 (I757.up h_o0) (by decide +kernel)) (sF_c I757 J1225 (I757.up h_o0) (by decide +kernel))
        rw [show (1 : Int32).toInt = 1 from by decide] at f1230
        obtain ⟨s1244, e1245⟩ : ∃ s9 : p_S, p_fl pb pn 1 ps = s9 := ⟨_, rfl⟩
        rw [e1245] at f1230
        have := f1230.w
        clear z767 z768 z769 z771 z772 z773 z774
        refine mv_goto (tgt := 70) d_TrustDeskModel_readClause_37 (by decide) ?_
        refine mv_aload_n d_TrustDeskModel_readClause_70 rfl rfl ?_
        obtain ⟨_, b1247, -⟩ := I1226.1 _ _ t1231
        refine mv_callV (kc1 := 0) (ks1 := 0) (kc' := 0) (ks' := 0) (As := []) (st9 := [.ref o0]) d_TrustDeskModel_readClause_71 lV_TrustDeskModel_230 b1247 rfl (mj_enter (by decide) (Nat.le_of_ble_eq_true rfl) ?_) rfl (Nat.le_of_ble_eq_true rfl) (Nat.le_of_ble_eq_true rfl) (Nat.le_of_ble_eq_true rfl) (hst := rfl) (fun _ _ _ h => h)
        refine mv_aload_n d_TrustDeskModel_isWell_0 rfl rfl ?_
        obtain ⟨v1249, q1248⟩ := tm_atI I1226 t1231 (k := 19) rfl
        refine tr_getK q1248 d_TrustDeskModel_isWell_1 f_TrustDeskModel_224_13 ?_
        have := R1228.f (k := 19) q1248 rfl
        have := tm_rv q1248
        refine mv_if_neZ (tgt := 11) (a := v1249.toInt) d_TrustDeskModel_isWell_4 (by decide) rfl (fun b1250 => ?_) (fun b1250 => ?_)
        · refine mv_iconst (v := 0) d_TrustDeskModel_isWell_11 (by decide) ?_
          refine mv_iret d_TrustDeskModel_isWell_12 rfl (by decide) ?_
          refine mv_if_ne_f (tgt := 78) d_TrustDeskModel_readClause_74 (by decide) (by decide) ?_
          exact mv_vret d_TrustDeskModel_readClause_77 rfl ⟨_, I1226, rfl, R1228, (rW.of E1239.1 (fun h9 => by exfalso; skip; have := R1228.1 15 _ _ rfl; have := R1228.1 16 _ _ rfl; have := R1228.1 19 _ _ rfl; omega) (fun h9 => by exfalso; skip; have := R1228.1 15 _ _ rfl; have := R1228.1 16 _ _ rfl; have := R1228.1 19 _ _ rfl; omega)), (rO.of E1239 K1240 (by have := yR.2 6 _ _ rfl 44; omega)), ⟨E1239.2.1, fun w9 => by skip; have := E1239.w2 w9; omega⟩, (fun w9 => by skip; omega), (fun _ h9 => by exfalso; skip; have := R1228.1 15 _ _ rfl; have := R1228.1 16 _ _ rfl; have := R1228.1 19 _ _ rfl; omega), (by have := R1228.1 15 _ _ rfl; have := R1228.1 16 _ _ rfl; have := R1228.1 19 _ _ rfl; omega), (by rw [show (p_cl pb pn pa (pc9, pN9, ps)).2 = s1244 from (congrArg Prod.snd (p_cl_1 (yO.w.symm.trans yw) (pW0 (Im.o d33) (by omega)) (pW0 (Im.o d312) (by omega)) (pW0 (Im.o d781) (by omega)))).trans (by show _ = _; (try dsimp only); (try (first | (simp only [e1245]; done) | (simp only [e1245]; first | exact p_sg_Z _ (by omega) | omega))))]; exact f1230), (fun w9 => by skip; omega), (fun h9 => by exfalso; skip; have := R1228.1 15 _ _ rfl; have := R1228.1 16 _ _ rfl; have := R1228.1 19 _ _ rfl; omega), K1242⟩
        · exfalso
          have := R1228.1 15 _ _ rfl; have := R1228.1 16 _ _ rfl; have := R1228.1 19 _ _ rfl; omega
