def w_TrustDeskModel_readRule_aA : List Nat := [1315, 1316, 1317, 1318, 1319, 1320, 1322, 20004, 20005, 20006, 20007, 20008, 20010, 20011, 20012]
set_option maxHeartbeats 100000000 in theorem tc_TrustDeskModel_readRule_aA {g : mj_G} {l : Launch} {d : Nat} {T0 : tm_H} {M0 : mj_M} {n0 x9 : Nat} {o0 : Nat} (h_o0 : T0 o0 = some (0, 13, 0)) (yR : rI M0 o0) (yWW : rW M0 o0) (yw : rv M0 o0 19 = 0) (yo : rv M0 o0 17 ≠ 0) (yq : rv M0 o0 22 = 0) {pb : Nat → Int} {pn : Nat} {pa : Int} {ps : p_S} (yO : pO M0 o0 pb pn pa ps) {pc9 : Nat} (yk : ra M0 o0 6 44 = (pc9 : Int)) (yB : ¬ p_wi pb pn ps.2.2 = 23) (I0 : tm_I tm_FT (tm_in w_TrustDeskModel_readRule_aA) x9 T0 M0 n0 T0 M0 n0) : mj_Met g l kY_TrustDeskModel_readRule (d + 6) [.ref o0] M0 n0 0 0 (tm_Q tm_FT (tm_in w_TrustDeskModel_readRule_aA) x9 T0 M0 n0 (fun r _ M => r = none ∧ rI M o0 ∧ (rW M o0) ∧ (rO M0 M o0) ∧ (rv M0 o0 16 ≤ rv M o0 16 ∧ (rv M o0 19 = 0 → rv M0 o0 16 < rv M o0 16)) ∧ (rv M o0 19 = 0 → rv M o0 22 = 0) ∧ (pO M o0 pb pn pa (p_rul pb pn pa pc9 ps)) ∧ (rv M o0 19 = 0 → ra M o0 6 44 = (pc9 : Int) + 1) ∧ (∀ i : Nat, i ≠ 44 → ra M o0 6 i = ra M0 o0 6 i) ∧ (rK M0 M o0 (880 + ra M0 o0 6 44).toNat) ∧ (rv M o0 19 = 0 → rwA M o0 (880 + ra M0 o0 6 44).toNat pb pn ps.2.2))) := by
  refine mj_enter (by decide) (Nat.le_of_ble_eq_true rfl) ?_
  have yT := yWW.1
  have yS : rv M0 o0 19 = 0 → ra M0 o0 5 44 ≤ rv M0 o0 16 := fun h9 => (yWW.2 h9).1
  have yG := (yWW.2 yw).2
  have yN := yG.2.2
  have := yR.2 6 _ _ rfl 44
  have yE0 := rE.rf yT
  have K1 : rK M0 M0 o0 ((880 + ra M0 o0 6 44).toNat) := rK.rf
  have K2 : nN M0 o0 := yN
  have K3 : ∀ i : Nat, i ≠ 44 → ra M0 o0 6 i = ra M0 o0 6 i := (fun _ _ => rfl)
  have := yO.w
  refine mv_aload_n d_TrustDeskModel_readRule_0 rfl rfl ?_
  obtain ⟨_, b10, -⟩ := I0.1 _ _ h_o0
  refine mv_callV (kc' := 0) (ks' := 0) (As := []) (st9 := [.ref o0]) d_TrustDeskModel_readRule_1 lV_TrustDeskModel_365 b10 rfl (tc_TrustDeskModel_ruleWord_x (d := d) (x9 := x9) (o0 := o0) h_o0 yR yO (by have := yR.1 15 _ _ rfl; have := yR.1 16 _ _ rfl; have := yR.1 19 _ _ rfl; omega) I0.start) rfl (Nat.le_of_ble_eq_true rfl) (Nat.le_of_ble_eq_true rfl) (Nat.le_of_ble_eq_true rfl) (hst := rfl) (fun b4r M5 n6 b4 => ?_)
  obtain ⟨T7, J8, v11, rfl, R12, f13, f14⟩ := b4
  have I9 := I0.call J8 (tm_sub (by decide)) (Or.inl rfl)
  have t15 := J8.up h_o0
  have z16 := (rv_c I0 J8 (I0.up h_o0) (k := 15) rfl)
  have z17 := (rv_c I0 J8 (I0.up h_o0) (k := 16) rfl)
  have z18 := (rv_c I0 J8 (I0.up h_o0) (k := 17) rfl)
  have z19 := (rv_c I0 J8 (I0.up h_o0) (k := 19) rfl)
  have z20 := (rv_c I0 J8 (I0.up h_o0) (k := 22) rfl)
  have z21 := (rv_c I0 J8 (I0.up h_o0) (k := 24) rfl)
  have z22 := (ra_call I0 J8 (I0.up h_o0) (k := 5) rfl rfl rfl 44)
  have z23 := (ra_call I0 J8 (I0.up h_o0) (k := 6) rfl rfl rfl 44)
  have E24 : rE M0 M5 o0 0 0 := yE0.same (rE_hv I0 J8 (I0.up h_o0) 15 19 (by decide)) (rE_ha I0 J8 (I0.up h_o0) (by decide))
  have K25 : rK M0 M5 o0 ((880 + ra M0 o0 6 44).toNat) := K1.same (sA_c I0 J8 (I0.up h_o0) (by decide +kernel))
  have K26 : nN M5 o0 := K2.same (sA_c I0 J8 (I0.up h_o0) (by decide +kernel)) (sF_c I0 J8 (I0.up h_o0) (by decide +kernel))
  have K27 : ∀ i : Nat, i ≠ 44 → ra M5 o0 6 i = ra M0 o0 6 i := (by have e9 := ((sA_c I0 J8 (I0.up h_o0) (by decide +kernel)) : sA [6] _ _ _) 6 rfl; rw [e9]; exact K3)
  have Z928 : pO M5 o0 pb pn pa ps := yO.same (rE_hv I0 J8 (I0.up h_o0) 14 20 (by decide)) (rv_c I0 J8 (I0.up h_o0) (k := 23) rfl) (ra_call I0 J8 (I0.up h_o0) (k := 13) rfl rfl rfl)
  refine mv_istore_n (lv' := [(1, .int v11), (0, .ref o0)]) d_TrustDeskModel_readRule_4 rfl (by decide) rfl ?_
  refine mv_iload_n d_TrustDeskModel_readRule_5 rfl rfl ?_
  refine mv_iconst (v := (-1)) d_TrustDeskModel_readRule_6 (by decide) ?_
  have := mz_hi v11
  refine mv_icmp_neZ (tgt := 18) (a := v11.toInt) (b := (-1)) d_TrustDeskModel_readRule_7 (by decide) rfl (by decide) (fun b29 => ?_) (fun b29 => ?_)
  · refine mv_aload_n d_TrustDeskModel_readRule_18 rfl rfl ?_
    obtain ⟨a31, q30, t_a31⟩ := tm_atR I9 t15 (k := 6) rfl
    refine tr_getK q30 d_TrustDeskModel_readRule_19 f_TrustDeskModel_23_13 ?_
    refine mv_bipush (v := 44) d_TrustDeskModel_readRule_22 (by decide) ?_
    refine tr_ialdR (o := o0) (k := 6) I9 q30 t_a31 (by decide) d_TrustDeskModel_readRule_24 (by unfold vp_in; decide) (fun v32 e33 => ?_)
    have := R12.a (k := 6) rfl (44 : Int32).toNatClampNeg
    have : v32.toInt = ra M5 o0 6 44 := e33
    have : v32.toInt = _ := Eq.trans e33 z23
    refine mv_bipush (v := 20) d_TrustDeskModel_readRule_25 (by decide) ?_
    have := mz_hi v32
    refine mv_icmp_neZ (tgt := 35) (a := v32.toInt) (b := 20) d_TrustDeskModel_readRule_27 (by decide) rfl (by decide) (fun b34 => ?_) (fun b34 => ?_)
    · refine mv_aload_n d_TrustDeskModel_readRule_35 rfl rfl ?_
      obtain ⟨_, b35, -⟩ := I9.1 _ _ t15
      refine mv_callV (kc1 := 0) (ks1 := 0) (kc' := 0) (ks' := 0) (As := []) (st9 := [.ref o0]) d_TrustDeskModel_readRule_36 lV_TrustDeskModel_230 b35 rfl (mj_enter (by decide) (Nat.le_of_ble_eq_true rfl) ?_) rfl (Nat.le_of_ble_eq_true rfl) (Nat.le_of_ble_eq_true rfl) (Nat.le_of_ble_eq_true rfl) (hst := rfl) (fun _ _ _ h => h)
      refine mv_aload_n d_TrustDeskModel_isWell_0 rfl rfl ?_
      obtain ⟨v37, q36⟩ := tm_atI I9 t15 (k := 19) rfl
      refine tr_getK q36 d_TrustDeskModel_isWell_1 f_TrustDeskModel_224_13 ?_
      have := R12.f (k := 19) q36 rfl
      have := (tm_rv q36).symm.trans z19
      have := tm_rv q36
      have := mz_hi v37
      refine mv_if_neZ (tgt := 11) (a := v37.toInt) d_TrustDeskModel_isWell_4 (by decide) rfl (fun b38 => ?_) (fun b38 => ?_)
      · refine mv_iconst (v := 0) d_TrustDeskModel_isWell_11 (by decide) ?_
        refine mv_iret d_TrustDeskModel_isWell_12 rfl (by decide) ?_
        refine mv_if_ne_f (tgt := 43) d_TrustDeskModel_readRule_39 (by decide) (by decide) ?_
        exact mv_vret d_TrustDeskModel_readRule_42 rfl ⟨_, I9, rfl, R12, (rW.of E24.1 (E24.s yS (by decide)) (fun w9 => by skip; exact rG.step yG yR E24 w9 K25 (by have := yR.2 6 _ _ rfl 44; omega) (by have := R12.1 15 _ _ rfl; have := R12.1 16 _ _ rfl; have := R12.1 19 _ _ rfl; omega) (by have := R12.1 15 _ _ rfl; have := R12.1 16 _ _ rfl; have := R12.1 19 _ _ rfl; omega) (fun h9 => by exfalso; have := R12.1 15 _ _ rfl; have := R12.1 16 _ _ rfl; have := R12.1 19 _ _ rfl; omega) (fun h9 => (by have := R12.1 15 _ _ rfl; have := R12.1 16 _ _ rfl; have := R12.1 19 _ _ rfl; omega)) (by have := R12.1 15 _ _ rfl; have := R12.1 16 _ _ rfl; have := R12.1 19 _ _ rfl; omega) K26)), (rO.of E24 K25 (by have := yR.2 6 _ _ rfl 44; omega)), ⟨E24.2.1, fun w9 => by skip; have := E24.w2 w9; omega⟩, (fun w9 => by skip; omega), (by first | (rw [show p_rul pb pn pa pc9 ps = ps from (by unfold p_rul; unfold p_bar; (try simp only [eq_self]); ((repeat' (first | (with_reducible rfl) | split)) <;> (first | ((try simp only [eq_self]); done) | ((try simp only [eq_self]); first | exact p_sg_Z _ (by omega) | exact (p_sg_Z _ (by omega)).symm | omega) | (exfalso; omega))))]; exact Z928) | (exfalso; have := R12.1 15 _ _ rfl; have := R12.1 16 _ _ rfl; have := R12.1 19 _ _ rfl; omega)), (fun w9 => by skip; omega), K27, K25, (fun h9 => by exfalso; skip; have := R12.1 15 _ _ rfl; have := R12.1 16 _ _ rfl; have := R12.1 19 _ _ rfl; omega)⟩
      · refine mv_iconst (v := 1) d_TrustDeskModel_isWell_7 (by decide) ?_
        refine mv_goto (tgt := 12) d_TrustDeskModel_isWell_8 (by decide) ?_
        refine mv_iret d_TrustDeskModel_isWell_12 rfl (by decide) ?_
        refine mv_if_ne_t (tgt := 43) d_TrustDeskModel_readRule_39 (by decide) (by decide) ?_
        refine mv_aload_n d_TrustDeskModel_readRule_43 rfl rfl ?_
        refine mv_iload_n d_TrustDeskModel_readRule_44 rfl rfl ?_
        obtain ⟨_, b45, -⟩ := I9.1 _ _ t15
        refine mv_callV (kc' := 0) (ks' := 0) (As := [.int v11]) (st9 := [.int v11, .ref o0]) d_TrustDeskModel_readRule_45 lV_TrustDeskModel_342 b45 rfl (tc_TrustDeskModel_begin_a (d := (d + 3)) (x9 := x9) (o0 := o0) (x1 := v11) t15 R12 E24.1 (E24.s yS (by decide)) (by have := R12.1 15 _ _ rfl; have := R12.1 16 _ _ rfl; have := R12.1 19 _ _ rfl; omega) (by have := R12.1 15 _ _ rfl; have := R12.1 16 _ _ rfl; have := R12.1 19 _ _ rfl; omega) (by have := R12.1 15 _ _ rfl; have := R12.1 16 _ _ rfl; have := R12.1 19 _ _ rfl; omega) Z928 I9.start) rfl (Nat.le_of_ble_eq_true rfl) (Nat.le_of_ble_eq_true rfl) (Nat.le_of_ble_eq_true rfl) (hst := rfl) (fun b39r M40 n41 b39 => ?_)
        obtain ⟨T42, J43, v46, rfl, R47, f48, f49, f50, f51, f52, f53, f54, f55⟩ := b39
        have I44 := I9.call J43 (tm_sub (by decide)) (Or.inl rfl)
        have t56 := J43.up t15
        have := f48.2.1
        have f57 := Im.i f48.w.2
        have f58 := Im.i f48.w2
        have z59 := (rv_c I9 J43 (I9.up h_o0) (k := 19) rfl).trans z19
        have z60 := (rv_c I9 J43 (I9.up h_o0) (k := 22) rfl).trans z20
        have z61 := (rv_c I9 J43 (I9.up h_o0) (k := 24) rfl).trans z21
        have z62 := (ra_call I9 J43 (I9.up h_o0) (k := 5) rfl rfl rfl 44).trans z22
        have E63 : rE M0 M40 o0 0 1 := E24.trans f48 (by decide) (yR.2 5 _ _ rfl 44).1 (by decide) (by decide)
        have h64 : (880 + ra M5 o0 6 44).toNat = (880 + ra M0 o0 6 44).toNat := by omega
        rw [h64] at f51 f52 f53
        have K65 : rK M0 M40 o0 ((880 + ra M0 o0 6 44).toNat) := K25.trans f53
        have K66 : nN M40 o0 := K26.same (sA_c I9 J43 (I9.up h_o0) (by decide +kernel)) (sF_c I9 J43 (I9.up h_o0) (by decide +kernel))
        have K67 : ∀ i : Nat, i ≠ 44 → ra M40 o0 6 i = ra M0 o0 6 i := (fun i h9 => (f55 i h9).trans (K27 i h9))
        obtain ⟨s68, e69⟩ : ∃ s9 : p_S, p_nx ps = s9 := ⟨_, rfl⟩
        rw [e69] at f54
        have := f54.w
        clear z20 z21
        have q70 := J43.keep t15 (by decide) q30
        have t71 := J43.up t_a31
        have q72 := J43.keep t15 (by decide) q36
        refine mv_istore_n (lv' := [(2, .int v46), (1, .int v11), (0, .ref o0)]) d_TrustDeskModel_readRule_48 rfl (by decide) rfl ?_
        refine mv_iload_n d_TrustDeskModel_readRule_49 rfl rfl ?_
        refine mv_bipush (v := 6) d_TrustDeskModel_readRule_50 (by decide) ?_
        have := mz_hi v11
        refine mv_icmp_neZ (tgt := 171) (a := v11.toInt) (b := 6) d_TrustDeskModel_readRule_52 (by decide) rfl (by decide) (fun b73 => ?_) (fun b73 => by exfalso; omega)
        refine mv_iload_n d_TrustDeskModel_readRule_171 rfl rfl ?_
        refine mv_iconst (v := 1) d_TrustDeskModel_readRule_172 (by decide) ?_
        have := mz_hi v11
        refine mv_icmp_eqZ (tgt := 181) (a := v11.toInt) (b := 1) d_TrustDeskModel_readRule_173 (by decide) rfl (by decide) (fun b74 => ?_) (fun b74 => ?_)
        · refine mv_iconst (v := 0) d_TrustDeskModel_readRule_181 (by decide) ?_
          refine mv_goto (tgt := 186) d_TrustDeskModel_readRule_182 (by decide) ?_
          refine mv_istore_n (lv' := [(3, .int 0), (2, .int v46), (1, .int v11), (0, .ref o0)]) d_TrustDeskModel_readRule_186 rfl (by decide) rfl ?_
          refine mv_aload_n d_TrustDeskModel_readRule_187 rfl rfl ?_
          obtain ⟨a76, q75, t_a76⟩ := tm_atR I44 t56 (k := 8) rfl
          refine tr_getK q75 d_TrustDeskModel_readRule_188 f_TrustDeskModel_29_13 ?_
          refine mv_iload_n d_TrustDeskModel_readRule_191 rfl rfl ?_
          refine mv_aload_n d_TrustDeskModel_readRule_192 rfl rfl ?_
          refine mv_iload_n d_TrustDeskModel_readRule_193 rfl rfl ?_
          refine mv_iload_n d_TrustDeskModel_readRule_194 rfl rfl ?_
          have := mz_hi v11
          refine mv_if_neZ (tgt := 203) (a := v11.toInt) d_TrustDeskModel_readRule_195 (by decide) rfl (fun b77 => ?_) (fun b77 => absurd b77 (by omega))
          refine mv_iload_n d_TrustDeskModel_readRule_203 rfl rfl ?_
          refine mv_iconst (v := 1) d_TrustDeskModel_readRule_204 (by decide) ?_
          have := mz_hi v11
          refine mv_icmp_neZ (tgt := 213) (a := v11.toInt) (b := 1) d_TrustDeskModel_readRule_205 (by decide) rfl (by decide) (fun b78 => absurd b78 (by omega)) (fun b78 => ?_)
          refine mv_bipush (v := 8) d_TrustDeskModel_readRule_208 (by decide) ?_
          refine mv_goto (tgt := 247) d_TrustDeskModel_readRule_210 (by decide) ?_
          obtain ⟨_, b85, -⟩ := I44.1 _ _ t56
          have : (0 : Int32).toInt = 0 := by decide
          have : (8 : Int32).toInt = 8 := by decide
          refine mv_callV (kc' := 0) (ks' := 0) (As := [.int 0, .int 8]) (st9 := [.int 8, .int 0, .ref o0, .int v46, .ref a76]) d_TrustDeskModel_readRule_247 lV_TrustDeskModel_317 b85 rfl (tc_TrustDeskModel_number_x (d := (d + 3)) (x9 := x9) (o0 := o0) (x1 := 0) (x2 := 8) t56 R47 E63.1 (E63.s yS (by decide)) f54 I44.start) rfl (Nat.le_of_ble_eq_true rfl) (Nat.le_of_ble_eq_true rfl) (Nat.le_of_ble_eq_true rfl) (hst := rfl) (fun b79r M80 n81 b79 => ?_)
          obtain ⟨T82, J83, v86, rfl, R87, f88, f89, f90, f91⟩ := b79
          have I84 := I44.call J83 (tm_sub (by decide)) (Or.inl rfl)
          have t92 := J83.up t56
          have t93 := J83.up t_a76
          have := f88.2.1
          have f94 := Im.i f88.w.2
          have f95 := Im.i f88.w2
          replace f91 := Im.i f91
          have z96 := (rv_c I44 J83 (I44.up h_o0) (k := 22) rfl).trans z60
          have z97 := (rv_c I44 J83 (I44.up h_o0) (k := 24) rfl).trans z61
          have z98 := (ra_call I44 J83 (I44.up h_o0) (k := 5) rfl rfl rfl 44).trans z62
          have z99 := (ra_call I44 J83 (I44.up h_o0) (k := 6) rfl rfl rfl 44)
          have z100 := (ra_call I44 J83 (I44.up h_o0) (k := 7) rfl rfl rfl ((880 + ra M0 o0 6 44).toNat))
          have z101 := (ra_call I44 J83 (I44.up h_o0) (k := 10) rfl rfl rfl ((880 + ra M0 o0 6 44).toNat))
          have E102 : rE M0 M80 o0 0 2 := E63.trans f88 (by decide) (yR.2 5 _ _ rfl 44).1 (by decide) (by decide)
          have K103 : rK M0 M80 o0 ((880 + ra M0 o0 6 44).toNat) := K65.same (sA_c I44 J83 (I44.up h_o0) (by decide +kernel))
          have K104 : nN M80 o0 := K66.same (sA_c I44 J83 (I44.up h_o0) (by decide +kernel)) (sF_c I44 J83 (I44.up h_o0) (by decide +kernel))
          have K105 : ∀ i : Nat, i ≠ 44 → ra M80 o0 6 i = ra M0 o0 6 i := (by have e9 := ((sA_c I44 J83 (I44.up h_o0) (by decide +kernel)) : sA [6] _ _ _) 6 rfl; rw [e9]; exact K67)
          rw [show (0 : Int32).toInt = 0 from by decide] at f90
          rw [show (8 : Int32).toInt = 8 from by decide] at f90
          obtain ⟨s106, e107⟩ : ∃ s9 : p_S, p_num pb pn 0 8 s68 = s9 := ⟨_, rfl⟩
          rw [e107] at f90
          have := f90.w
          have : p_nm pb pn s68.2.2 = p_nm pb pn (ps.2.2 + 1) := by rw [← e69]; rfl
          clear z60 z61 z62
          have q108 := J83.keep t56 (by decide) q70
          have t109 := J83.up t71
          have q110 := J83.keep t56 (by decide) q75
          refine tr_iastR (k := 8) I84 R87 (I84.up h_o0) q110 t93 (by decide) (by decide) (fun lo hi h => by cases h; have := R87.1 15 _ _ rfl; have := R87.1 16 _ _ rfl; have := R87.1 19 _ _ rfl; exact ⟨by show ((-1) : Int) ≤ v86.toInt; omega, by show v86.toInt ≤ (720 : Int); omega⟩) (Or.inl (by decide)) d_TrustDeskModel_readRule_250 (vp_in_iff.mpr (by have := R87.1 15 _ _ rfl; have := R87.1 16 _ _ rfl; have := R87.1 19 _ _ rfl; omega)) (fun M111 I112 K113 R114 E115 A116 V117 => ?_)
          have z118 := (V117 15)
          have z119 := (V117 16)
          have z120 := (V117 17)
          have z121 := (V117 19)
          have z122 := (V117 22).trans z96
          have z123 := (V117 24).trans z97
          have z124 := (A116 5 (by decide) rfl 44).trans z98
          have z125 := (A116 6 (by decide) rfl 44).trans z99
          have z126 := (A116 7 (by decide) rfl ((880 + ra M0 o0 6 44).toNat)).trans z100
          have z127 := (A116 10 (by decide) rfl ((880 + ra M0 o0 6 44).toNat)).trans z101
          have E128 : rE M0 M111 o0 0 2 := E102.same (fun k _ _ => V117 k) (fun k h1 h2 => A116 k (by omega) (by rcases (show k = 4 ∨ k = 5 by omega) with rfl | rfl <;> rfl))
          have h129 : (880 + ra M0 o0 6 44).toNat = v46.toNatClampNeg := by have := mz_nat9 (i := v46) (by have := R87.1 15 _ _ rfl; have := R87.1 16 _ _ rfl; have := R87.1 19 _ _ rfl; omega); have := R87.1 15 _ _ rfl; have := R87.1 16 _ _ rfl; have := R87.1 19 _ _ rfl; omega
          have z130 : ra M111 o0 8 ((880 + ra M0 o0 6 44).toNat) = v86.toInt := (E115 _).trans (if_pos h129)
          have K131 : rK M0 M111 o0 ((880 + ra M0 o0 6 44).toNat) := K103.st A116 E115 (by have := mz_nat9 (i := v46) (by have := R87.1 15 _ _ rfl; have := R87.1 16 _ _ rfl; have := R87.1 19 _ _ rfl; omega); have := R87.1 15 _ _ rfl; have := R87.1 16 _ _ rfl; have := R87.1 19 _ _ rfl; omega)
          have K132 : nN M111 o0 := K104.same (sA_a A116 (by decide +kernel)) (sF_a V117)
          have K133 : ∀ i : Nat, i ≠ 44 → ra M111 o0 6 i = ra M0 o0 6 i := (by have e9 := ((sA_a A116 (by decide +kernel)) : sA [6] _ _ _) 6 rfl; rw [e9]; exact K105)
          have Z9134 : pO M111 o0 pb pn pa s106 := f90.same (fun k _ _ => V117 k) (V117 23) (A116 13 (by decide) rfl)
          clear z96 z97 z98 z99 z100 z101
          refine mv_aload_n d_TrustDeskModel_readRule_251 rfl rfl ?_
          refine mv_bipush (v := 59) d_TrustDeskModel_readRule_252 (by decide) ?_
          obtain ⟨_, b141, -⟩ := I112.1 _ _ t92
          have : (59 : Int32).toInt = 59 := by decide
          refine mv_callV (kc' := 0) (ks' := 0) (As := [.int 59]) (st9 := [.int 59, .ref o0]) d_TrustDeskModel_readRule_254 lV_TrustDeskModel_291 b141 rfl (tc_TrustDeskModel_wantSign_x (d := (d + 3)) (x9 := x9) (o0 := o0) (x1 := 59) t92 R114 E128.1 (E128.s yS (by decide)) (by decide) Z9134 I112.start) rfl (Nat.le_of_ble_eq_true rfl) (Nat.le_of_ble_eq_true rfl) (Nat.le_of_ble_eq_true rfl) (hst := rfl) (fun b135r M136 n137 b135 => ?_)
          obtain ⟨T138, J139, rfl, R142, f143, f144⟩ := b135
          have I140 := I112.call J139 (tm_sub (by decide)) (Or.inl rfl)
          have t145 := J139.up t92
          have := f143.2.1
          have f146 := Im.i f143.w.2
          have f147 := Im.i f143.w2
          have z148 := (rv_c I112 J139 (I112.up h_o0) (k := 22) rfl).trans z122
          have z149 := (rv_c I112 J139 (I112.up h_o0) (k := 24) rfl).trans z123
          have z150 := (ra_call I112 J139 (I112.up h_o0) (k := 5) rfl rfl rfl 44).trans z124
          have z151 := (ra_call I112 J139 (I112.up h_o0) (k := 6) rfl rfl rfl 44).trans z125
          have z152 := (ra_call I112 J139 (I112.up h_o0) (k := 7) rfl rfl rfl ((880 + ra M0 o0 6 44).toNat)).trans z126
          have z153 := (ra_call I112 J139 (I112.up h_o0) (k := 10) rfl rfl rfl ((880 + ra M0 o0 6 44).toNat)).trans z127
          have z154 := (ra_call I112 J139 (I112.up h_o0) (k := 8) rfl rfl rfl ((880 + ra M0 o0 6 44).toNat)).trans z130
          have E155 : rE M0 M136 o0 0 3 := E128.trans f143 (by decide) (yR.2 5 _ _ rfl 44).1 (by decide) (by decide)
          have K156 : rK M0 M136 o0 ((880 + ra M0 o0 6 44).toNat) := K131.same (sA_c I112 J139 (I112.up h_o0) (by decide +kernel))
          have K157 : nN M136 o0 := K132.same (sA_c I112 J139 (I112.up h_o0) (by decide +kernel)) (sF_c I112 J139 (I112.up h_o0) (by decide +kernel))
          have K158 : ∀ i : Nat, i ≠ 44 → ra M136 o0 6 i = ra M0 o0 6 i := (by have e9 := ((sA_c I112 J139 (I112.up h_o0) (by decide +kernel)) : sA [6] _ _ _) 6 rfl; rw [e9]; exact K133)
          rw [show (59 : Int32).toInt = 59 from by decide] at f144
          obtain ⟨s159, e160⟩ : ∃ s9 : p_S, p_sg pb pn 59 s106 = s9 := ⟨_, rfl⟩
          rw [e160] at f144
          have := f144.w
          clear z122 z123 z124 z125 z126 z127 z130
          have q161 := J139.keep t92 (by decide) (K113 _ 13 6 _ q108)
          have t162 := J139.up t109
          have q163 := J139.keep t92 (by decide) (K113 _ 13 8 _ q110)
          have t164 := J139.up t93
          refine mv_aload_n d_TrustDeskModel_readRule_257 rfl rfl ?_
          obtain ⟨a166, q165, t_a166⟩ := tm_atR I140 t145 (k := 12) rfl
          refine tr_getK q165 d_TrustDeskModel_readRule_258 f_TrustDeskModel_41_13 ?_
          refine mv_iload_n d_TrustDeskModel_readRule_261 rfl rfl ?_
          refine mv_aload_n d_TrustDeskModel_readRule_262 rfl rfl ?_
          obtain ⟨a168, q167, t_a168⟩ := tm_atR I140 t145 (k := 5) rfl
          refine tr_getK q167 d_TrustDeskModel_readRule_263 f_TrustDeskModel_20_13 ?_
          refine mv_bipush (v := 44) d_TrustDeskModel_readRule_266 (by decide) ?_
          refine tr_ialdR (o := o0) (k := 5) I140 q167 t_a168 (by decide) d_TrustDeskModel_readRule_268 (by unfold vp_in; decide) (fun v169 e170 => ?_)
          have := R142.a (k := 5) rfl (44 : Int32).toNatClampNeg
          have : v169.toInt = ra M136 o0 5 44 := e170
          have : v169.toInt = _ := Eq.trans e170 z150
          refine tr_iastR (k := 12) I140 R142 (I140.up h_o0) q165 t_a166 (by decide) (by decide) (fun lo hi h => by cases h; have := R142.1 15 _ _ rfl; have := R142.1 16 _ _ rfl; have := R142.1 19 _ _ rfl; exact ⟨by show (0 : Int) ≤ v169.toInt; omega, by show v169.toInt ≤ (400 : Int); omega⟩) (Or.inl (by decide)) d_TrustDeskModel_readRule_269 (vp_in_iff.mpr (by have := R142.1 15 _ _ rfl; have := R142.1 16 _ _ rfl; have := R142.1 19 _ _ rfl; omega)) (fun M171 I172 K173 R174 E175 A176 V177 => ?_)
          have z178 := (V177 15)
          have z179 := (V177 16)
          have z180 := (V177 17)
          have z181 := (V177 19)
          have z182 := (V177 22).trans z148
          have z183 := (V177 24).trans z149
          have z184 := (A176 5 (by decide) rfl 44).trans z150
          have z185 := (A176 6 (by decide) rfl 44).trans z151
          have z186 := (A176 7 (by decide) rfl ((880 + ra M0 o0 6 44).toNat)).trans z152
          have z187 := (A176 10 (by decide) rfl ((880 + ra M0 o0 6 44).toNat)).trans z153
          have z188 := (A176 8 (by decide) rfl ((880 + ra M0 o0 6 44).toNat)).trans z154
          have E189 : rE M0 M171 o0 0 3 := E155.same (fun k _ _ => V177 k) (fun k h1 h2 => A176 k (by omega) (by rcases (show k = 4 ∨ k = 5 by omega) with rfl | rfl <;> rfl))
          have h190 : (880 + ra M0 o0 6 44).toNat = v46.toNatClampNeg := by have := mz_nat9 (i := v46) (by have := R142.1 15 _ _ rfl; have := R142.1 16 _ _ rfl; have := R142.1 19 _ _ rfl; omega); have := R142.1 15 _ _ rfl; have := R142.1 16 _ _ rfl; have := R142.1 19 _ _ rfl; omega
          have z191 : ra M171 o0 12 ((880 + ra M0 o0 6 44).toNat) = v169.toInt := (E175 _).trans (if_pos h190)
          have K192 : rK M0 M171 o0 ((880 + ra M0 o0 6 44).toNat) := K156.st A176 E175 (by have := mz_nat9 (i := v46) (by have := R142.1 15 _ _ rfl; have := R142.1 16 _ _ rfl; have := R142.1 19 _ _ rfl; omega); have := R142.1 15 _ _ rfl; have := R142.1 16 _ _ rfl; have := R142.1 19 _ _ rfl; omega)
          have K193 : nN M171 o0 := K157.same (sA_a A176 (by decide +kernel)) (sF_a V177)
          have K194 : ∀ i : Nat, i ≠ 44 → ra M171 o0 6 i = ra M0 o0 6 i := (by have e9 := ((sA_a A176 (by decide +kernel)) : sA [6] _ _ _) 6 rfl; rw [e9]; exact K158)
          have Z9195 : pO M171 o0 pb pn pa s159 := f144.same (fun k _ _ => V177 k) (V177 23) (A176 13 (by decide) rfl)
          clear z148 z149 z150 z151 z152 z153 z154
          exact mv_vret d_TrustDeskModel_readRule_270 rfl ⟨_, I172, rfl, R174, (rW.of E189.1 (E189.s yS (by decide)) (fun w9 => by have u91 : rv M136 o0 19 = 0 := (by omega); have := f146.o u91; have := f147.o u91; have u92 : rv M80 o0 19 = 0 := (by omega); have := f94.o u92; have := f95.o u92; have := f91.o u92; have u93 : rv M40 o0 19 = 0 := (by omega); have := f57.o u93; have := f58.o u93; exact rG.step yG yR E189 w9 K192 (by have := yR.2 6 _ _ rfl 44; omega) (by have := R174.1 15 _ _ rfl; have := R174.1 16 _ _ rfl; have := R174.1 19 _ _ rfl; omega) (by have := R174.1 15 _ _ rfl; have := R174.1 16 _ _ rfl; have := R174.1 19 _ _ rfl; omega) (fun h9 => by exfalso; have := R174.1 15 _ _ rfl; have := R174.1 16 _ _ rfl; have := R174.1 19 _ _ rfl; omega) (fun h9 => (by have := R174.1 15 _ _ rfl; have := R174.1 16 _ _ rfl; have := R174.1 19 _ _ rfl; omega)) (by have := R174.1 15 _ _ rfl; have := R174.1 16 _ _ rfl; have := R174.1 19 _ _ rfl; omega) K193)), (rO.of E189 K192 (by have := yR.2 6 _ _ rfl 44; omega)), ⟨E189.2.1, fun w9 => by skip; have := E189.w2 w9; omega⟩, (fun w9 => by have u91 : rv M136 o0 19 = 0 := (by omega); have := f146.o u91; have := f147.o u91; have u92 : rv M80 o0 19 = 0 := (by omega); have := f94.o u92; have := f95.o u92; have := f91.o u92; have u93 : rv M40 o0 19 = 0 := (by omega); have := f57.o u93; have := f58.o u93; omega), (by first | (have hlo : p_lo (p_wi pb pn ps.2.2) = 0 := (by unfold p_lo; split <;> omega); have hhi : p_hi (p_wi pb pn ps.2.2) = 8 := (by unfold p_hi; (repeat' split) <;> omega); rw [show p_rul pb pn pa pc9 ps = s159 from (by unfold p_rul; unfold p_bar; rw [hlo, hhi]; (try simp only [e69, e107, e160]); ((repeat' (first | (with_reducible rfl) | split)) <;> (first | ((try simp only [e69, e107, e160]); done) | ((try simp only [e69, e107, e160]); first | exact p_sg_Z _ (by omega) | exact (p_sg_Z _ (by omega)).symm | omega) | (exfalso; omega))))]; exact Z9195) | (exfalso; have := R174.1 15 _ _ rfl; have := R174.1 16 _ _ rfl; have := R174.1 19 _ _ rfl; omega)), (fun w9 => by have u91 : rv M136 o0 19 = 0 := (by omega); have := f146.o u91; have := f147.o u91; have u92 : rv M80 o0 19 = 0 := (by omega); have := f94.o u92; have := f95.o u92; have := f91.o u92; have u93 : rv M40 o0 19 = 0 := (by omega); have := f57.o u93; have := f58.o u93; omega), K194, K192, (fun w9 => by have u91 : rv M136 o0 19 = 0 := (by omega); have := f146.o u91; have := f147.o u91; have u92 : rv M80 o0 19 = 0 := (by omega); have := f94.o u92; have := f95.o u92; have := f91.o u92; have u93 : rv M40 o0 19 = 0 := (by omega); have := f57.o u93; have := f58.o u93; unfold rwA; omega)⟩
        · refine mv_iload_n d_TrustDeskModel_readRule_176 rfl rfl ?_
          refine mv_iconst (v := 4) d_TrustDeskModel_readRule_177 (by decide) ?_
          have := mz_hi v11
          refine mv_icmp_neZ (tgt := 185) (a := v11.toInt) (b := 4) d_TrustDeskModel_readRule_178 (by decide) rfl (by decide) (fun b196 => ?_) (fun b196 => ?_)
          · refine mv_iconst (v := 1) d_TrustDeskModel_readRule_185 (by decide) ?_
            refine mv_istore_n (lv' := [(3, .int 1), (2, .int v46), (1, .int v11), (0, .ref o0)]) d_TrustDeskModel_readRule_186 rfl (by decide) rfl ?_
            refine mv_aload_n d_TrustDeskModel_readRule_187 rfl rfl ?_
            obtain ⟨a198, q197, t_a198⟩ := tm_atR I44 t56 (k := 8) rfl
            refine tr_getK q197 d_TrustDeskModel_readRule_188 f_TrustDeskModel_29_13 ?_
            refine mv_iload_n d_TrustDeskModel_readRule_191 rfl rfl ?_
            refine mv_aload_n d_TrustDeskModel_readRule_192 rfl rfl ?_
            refine mv_iload_n d_TrustDeskModel_readRule_193 rfl rfl ?_
            refine mv_iload_n d_TrustDeskModel_readRule_194 rfl rfl ?_
            have := mz_hi v11
            refine mv_if_neZ (tgt := 203) (a := v11.toInt) d_TrustDeskModel_readRule_195 (by decide) rfl (fun b199 => ?_) (fun b199 => ?_)
            · refine mv_iload_n d_TrustDeskModel_readRule_203 rfl rfl ?_
              refine mv_iconst (v := 1) d_TrustDeskModel_readRule_204 (by decide) ?_
              have := mz_hi v11
              refine mv_icmp_neZ (tgt := 213) (a := v11.toInt) (b := 1) d_TrustDeskModel_readRule_205 (by decide) rfl (by decide) (fun b200 => ?_) (fun b200 => absurd b200 (by omega))
              refine mv_iload_n d_TrustDeskModel_readRule_213 rfl rfl ?_
              refine mv_iconst (v := 2) d_TrustDeskModel_readRule_214 (by decide) ?_
              have := mz_hi v11
              refine mv_icmp_neZ (tgt := 224) (a := v11.toInt) (b := 2) d_TrustDeskModel_readRule_215 (by decide) rfl (by decide) (fun b201 => ?_) (fun b201 => ?_)
              · refine mv_iload_n d_TrustDeskModel_readRule_224 rfl rfl ?_
                refine mv_iconst (v := 3) d_TrustDeskModel_readRule_225 (by decide) ?_
                have := mz_hi v11
                refine mv_icmp_neZ (tgt := 235) (a := v11.toInt) (b := 3) d_TrustDeskModel_readRule_226 (by decide) rfl (by decide) (fun b202 => ?_) (fun b202 => ?_)
                · refine mv_iload_n d_TrustDeskModel_readRule_235 rfl rfl ?_
                  refine mv_iconst (v := 4) d_TrustDeskModel_readRule_236 (by decide) ?_
                  have := mz_hi v11
                  refine mv_icmp_neZ (tgt := 245) (a := v11.toInt) (b := 4) d_TrustDeskModel_readRule_237 (by decide) rfl (by decide) (fun b203 => ?_) (fun b203 => absurd b203 (by omega))
                  refine mv_bipush (v := 40) d_TrustDeskModel_readRule_245 (by decide) ?_
                  obtain ⟨_, b210, -⟩ := I44.1 _ _ t56
                  have : (1 : Int32).toInt = 1 := by decide
                  have : (40 : Int32).toInt = 40 := by decide
                  refine mv_callV (kc' := 0) (ks' := 0) (As := [.int 1, .int 40]) (st9 := [.int 40, .int 1, .ref o0, .int v46, .ref a198]) d_TrustDeskModel_readRule_247 lV_TrustDeskModel_317 b210 rfl (tc_TrustDeskModel_number_x (d := (d + 3)) (x9 := x9) (o0 := o0) (x1 := 1) (x2 := 40) t56 R47 E63.1 (E63.s yS (by decide)) f54 I44.start) rfl (Nat.le_of_ble_eq_true rfl) (Nat.le_of_ble_eq_true rfl) (Nat.le_of_ble_eq_true rfl) (hst := rfl) (fun b204r M205 n206 b204 => ?_)
                  obtain ⟨T207, J208, v211, rfl, R212, f213, f214, f215, f216⟩ := b204
                  have I209 := I44.call J208 (tm_sub (by decide)) (Or.inl rfl)
                  have t217 := J208.up t56
                  have t218 := J208.up t_a198
                  have := f213.2.1
                  have f219 := Im.i f213.w.2
                  have f220 := Im.i f213.w2
                  replace f216 := Im.i f216
                  have z221 := (rv_c I44 J208 (I44.up h_o0) (k := 22) rfl).trans z60
                  have z222 := (rv_c I44 J208 (I44.up h_o0) (k := 24) rfl).trans z61
                  have z223 := (ra_call I44 J208 (I44.up h_o0) (k := 5) rfl rfl rfl 44).trans z62
                  have z224 := (ra_call I44 J208 (I44.up h_o0) (k := 6) rfl rfl rfl 44)
                  have z225 := (ra_call I44 J208 (I44.up h_o0) (k := 7) rfl rfl rfl ((880 + ra M0 o0 6 44).toNat))
                  have z226 := (ra_call I44 J208 (I44.up h_o0) (k := 10) rfl rfl rfl ((880 + ra M0 o0 6 44).toNat))
                  have E227 : rE M0 M205 o0 0 2 := E63.trans f213 (by decide) (yR.2 5 _ _ rfl 44).1 (by decide) (by decide)
                  have K228 : rK M0 M205 o0 ((880 + ra M0 o0 6 44).toNat) := K65.same (sA_c I44 J208 (I44.up h_o0) (by decide +kernel))
                  have K229 : nN M205 o0 := K66.same (sA_c I44 J208 (I44.up h_o0) (by decide +kernel)) (sF_c I44 J208 (I44.up h_o0) (by decide +kernel))
                  have K230 : ∀ i : Nat, i ≠ 44 → ra M205 o0 6 i = ra M0 o0 6 i := (by have e9 := ((sA_c I44 J208 (I44.up h_o0) (by decide +kernel)) : sA [6] _ _ _) 6 rfl; rw [e9]; exact K67)
                  rw [show (1 : Int32).toInt = 1 from by decide] at f215
                  rw [show (40 : Int32).toInt = 40 from by decide] at f215
                  obtain ⟨s231, e232⟩ : ∃ s9 : p_S, p_num pb pn 1 40 s68 = s9 := ⟨_, rfl⟩
                  rw [e232] at f215
                  have := f215.w
                  have : p_nm pb pn s68.2.2 = p_nm pb pn (ps.2.2 + 1) := by rw [← e69]; rfl
                  clear z60 z61 z62
                  have q233 := J208.keep t56 (by decide) q70
                  have t234 := J208.up t71
                  have q235 := J208.keep t56 (by decide) q197
                  refine tr_iastR (k := 8) I209 R212 (I209.up h_o0) q235 t218 (by decide) (by decide) (fun lo hi h => by cases h; have := R212.1 15 _ _ rfl; have := R212.1 16 _ _ rfl; have := R212.1 19 _ _ rfl; exact ⟨by show ((-1) : Int) ≤ v211.toInt; omega, by show v211.toInt ≤ (720 : Int); omega⟩) (Or.inl (by decide)) d_TrustDeskModel_readRule_250 (vp_in_iff.mpr (by have := R212.1 15 _ _ rfl; have := R212.1 16 _ _ rfl; have := R212.1 19 _ _ rfl; omega)) (fun M236 I237 K238 R239 E240 A241 V242 => ?_)
                  have z243 := (V242 15)
                  have z244 := (V242 16)
                  have z245 := (V242 17)
                  have z246 := (V242 19)
                  have z247 := (V242 22).trans z221
                  have z248 := (V242 24).trans z222
                  have z249 := (A241 5 (by decide) rfl 44).trans z223
                  have z250 := (A241 6 (by decide) rfl 44).trans z224
                  have z251 := (A241 7 (by decide) rfl ((880 + ra M0 o0 6 44).toNat)).trans z225
                  have z252 := (A241 10 (by decide) rfl ((880 + ra M0 o0 6 44).toNat)).trans z226
                  have E253 : rE M0 M236 o0 0 2 := E227.same (fun k _ _ => V242 k) (fun k h1 h2 => A241 k (by omega) (by rcases (show k = 4 ∨ k = 5 by omega) with rfl | rfl <;> rfl))
                  have h254 : (880 + ra M0 o0 6 44).toNat = v46.toNatClampNeg := by have := mz_nat9 (i := v46) (by have := R212.1 15 _ _ rfl; have := R212.1 16 _ _ rfl; have := R212.1 19 _ _ rfl; omega); have := R212.1 15 _ _ rfl; have := R212.1 16 _ _ rfl; have := R212.1 19 _ _ rfl; omega
                  have z255 : ra M236 o0 8 ((880 + ra M0 o0 6 44).toNat) = v211.toInt := (E240 _).trans (if_pos h254)
                  have K256 : rK M0 M236 o0 ((880 + ra M0 o0 6 44).toNat) := K228.st A241 E240 (by have := mz_nat9 (i := v46) (by have := R212.1 15 _ _ rfl; have := R212.1 16 _ _ rfl; have := R212.1 19 _ _ rfl; omega); have := R212.1 15 _ _ rfl; have := R212.1 16 _ _ rfl; have := R212.1 19 _ _ rfl; omega)
                  have K257 : nN M236 o0 := K229.same (sA_a A241 (by decide +kernel)) (sF_a V242)
                  have K258 : ∀ i : Nat, i ≠ 44 → ra M236 o0 6 i = ra M0 o0 6 i := (by have e9 := ((sA_a A241 (by decide +kernel)) : sA [6] _ _ _) 6 rfl; rw [e9]; exact K230)
                  have Z9259 : pO M236 o0 pb pn pa s231 := f215.same (fun k _ _ => V242 k) (V242 23) (A241 13 (by decide) rfl)
                  clear z221 z222 z223 z224 z225 z226
                  refine mv_aload_n d_TrustDeskModel_readRule_251 rfl rfl ?_
                  refine mv_bipush (v := 59) d_TrustDeskModel_readRule_252 (by decide) ?_
                  obtain ⟨_, b266, -⟩ := I237.1 _ _ t217
                  have : (59 : Int32).toInt = 59 := by decide
                  refine mv_callV (kc' := 0) (ks' := 0) (As := [.int 59]) (st9 := [.int 59, .ref o0]) d_TrustDeskModel_readRule_254 lV_TrustDeskModel_291 b266 rfl (tc_TrustDeskModel_wantSign_x (d := (d + 3)) (x9 := x9) (o0 := o0) (x1 := 59) t217 R239 E253.1 (E253.s yS (by decide)) (by decide) Z9259 I237.start) rfl (Nat.le_of_ble_eq_true rfl) (Nat.le_of_ble_eq_true rfl) (Nat.le_of_ble_eq_true rfl) (hst := rfl) (fun b260r M261 n262 b260 => ?_)
                  obtain ⟨T263, J264, rfl, R267, f268, f269⟩ := b260
                  have I265 := I237.call J264 (tm_sub (by decide)) (Or.inl rfl)
                  have t270 := J264.up t217
                  have := f268.2.1
                  have f271 := Im.i f268.w.2
                  have f272 := Im.i f268.w2
                  have z273 := (rv_c I237 J264 (I237.up h_o0) (k := 22) rfl).trans z247
                  have z274 := (rv_c I237 J264 (I237.up h_o0) (k := 24) rfl).trans z248
                  have z275 := (ra_call I237 J264 (I237.up h_o0) (k := 5) rfl rfl rfl 44).trans z249
                  have z276 := (ra_call I237 J264 (I237.up h_o0) (k := 6) rfl rfl rfl 44).trans z250
                  have z277 := (ra_call I237 J264 (I237.up h_o0) (k := 7) rfl rfl rfl ((880 + ra M0 o0 6 44).toNat)).trans z251
                  have z278 := (ra_call I237 J264 (I237.up h_o0) (k := 10) rfl rfl rfl ((880 + ra M0 o0 6 44).toNat)).trans z252
                  have z279 := (ra_call I237 J264 (I237.up h_o0) (k := 8) rfl rfl rfl ((880 + ra M0 o0 6 44).toNat)).trans z255
                  have E280 : rE M0 M261 o0 0 3 := E253.trans f268 (by decide) (yR.2 5 _ _ rfl 44).1 (by decide) (by decide)
                  have K281 : rK M0 M261 o0 ((880 + ra M0 o0 6 44).toNat) := K256.same (sA_c I237 J264 (I237.up h_o0) (by decide +kernel))
                  have K282 : nN M261 o0 := K257.same (sA_c I237 J264 (I237.up h_o0) (by decide +kernel)) (sF_c I237 J264 (I237.up h_o0) (by decide +kernel))
                  have K283 : ∀ i : Nat, i ≠ 44 → ra M261 o0 6 i = ra M0 o0 6 i := (by have e9 := ((sA_c I237 J264 (I237.up h_o0) (by decide +kernel)) : sA [6] _ _ _) 6 rfl; rw [e9]; exact K258)
                  rw [show (59 : Int32).toInt = 59 from by decide] at f269
                  obtain ⟨s284, e285⟩ : ∃ s9 : p_S, p_sg pb pn 59 s231 = s9 := ⟨_, rfl⟩
                  rw [e285] at f269
                  have := f269.w
                  clear z247 z248 z249 z250 z251 z252 z255
                  have q286 := J264.keep t217 (by decide) (K238 _ 13 6 _ q233)
                  have t287 := J264.up t234
                  have q288 := J264.keep t217 (by decide) (K238 _ 13 8 _ q235)
                  have t289 := J264.up t218
                  refine mv_aload_n d_TrustDeskModel_readRule_257 rfl rfl ?_
                  obtain ⟨a291, q290, t_a291⟩ := tm_atR I265 t270 (k := 12) rfl
                  refine tr_getK q290 d_TrustDeskModel_readRule_258 f_TrustDeskModel_41_13 ?_
                  refine mv_iload_n d_TrustDeskModel_readRule_261 rfl rfl ?_
                  refine mv_aload_n d_TrustDeskModel_readRule_262 rfl rfl ?_
                  obtain ⟨a293, q292, t_a293⟩ := tm_atR I265 t270 (k := 5) rfl
                  refine tr_getK q292 d_TrustDeskModel_readRule_263 f_TrustDeskModel_20_13 ?_
                  refine mv_bipush (v := 44) d_TrustDeskModel_readRule_266 (by decide) ?_
                  refine tr_ialdR (o := o0) (k := 5) I265 q292 t_a293 (by decide) d_TrustDeskModel_readRule_268 (by unfold vp_in; decide) (fun v294 e295 => ?_)
                  have := R267.a (k := 5) rfl (44 : Int32).toNatClampNeg
                  have : v294.toInt = ra M261 o0 5 44 := e295
                  have : v294.toInt = _ := Eq.trans e295 z275
                  refine tr_iastR (k := 12) I265 R267 (I265.up h_o0) q290 t_a291 (by decide) (by decide) (fun lo hi h => by cases h; have := R267.1 15 _ _ rfl; have := R267.1 16 _ _ rfl; have := R267.1 19 _ _ rfl; exact ⟨by show (0 : Int) ≤ v294.toInt; omega, by show v294.toInt ≤ (400 : Int); omega⟩) (Or.inl (by decide)) d_TrustDeskModel_readRule_269 (vp_in_iff.mpr (by have := R267.1 15 _ _ rfl; have := R267.1 16 _ _ rfl; have := R267.1 19 _ _ rfl; omega)) (fun M296 I297 K298 R299 E300 A301 V302 => ?_)
                  have z303 := (V302 15)
                  have z304 := (V302 16)
                  have z305 := (V302 17)
                  have z306 := (V302 19)
                  have z307 := (V302 22).trans z273
                  have z308 := (V302 24).trans z274
                  have z309 := (A301 5 (by decide) rfl 44).trans z275
                  have z310 := (A301 6 (by decide) rfl 44).trans z276
                  have z311 := (A301 7 (by decide) rfl ((880 + ra M0 o0 6 44).toNat)).trans z277
                  have z312 := (A301 10 (by decide) rfl ((880 + ra M0 o0 6 44).toNat)).trans z278
                  have z313 := (A301 8 (by decide) rfl ((880 + ra M0 o0 6 44).toNat)).trans z279
                  have E314 : rE M0 M296 o0 0 3 := E280.same (fun k _ _ => V302 k) (fun k h1 h2 => A301 k (by omega) (by rcases (show k = 4 ∨ k = 5 by omega) with rfl | rfl <;> rfl))
                  have h315 : (880 + ra M0 o0 6 44).toNat = v46.toNatClampNeg := by have := mz_nat9 (i := v46) (by have := R267.1 15 _ _ rfl; have := R267.1 16 _ _ rfl; have := R267.1 19 _ _ rfl; omega); have := R267.1 15 _ _ rfl; have := R267.1 16 _ _ rfl; have := R267.1 19 _ _ rfl; omega
                  have z316 : ra M296 o0 12 ((880 + ra M0 o0 6 44).toNat) = v294.toInt := (E300 _).trans (if_pos h315)
                  have K317 : rK M0 M296 o0 ((880 + ra M0 o0 6 44).toNat) := K281.st A301 E300 (by have := mz_nat9 (i := v46) (by have := R267.1 15 _ _ rfl; have := R267.1 16 _ _ rfl; have := R267.1 19 _ _ rfl; omega); have := R267.1 15 _ _ rfl; have := R267.1 16 _ _ rfl; have := R267.1 19 _ _ rfl; omega)
                  have K318 : nN M296 o0 := K282.same (sA_a A301 (by decide +kernel)) (sF_a V302)
                  have K319 : ∀ i : Nat, i ≠ 44 → ra M296 o0 6 i = ra M0 o0 6 i := (by have e9 := ((sA_a A301 (by decide +kernel)) : sA [6] _ _ _) 6 rfl; rw [e9]; exact K283)
                  have Z9320 : pO M296 o0 pb pn pa s284 := f269.same (fun k _ _ => V302 k) (V302 23) (A301 13 (by decide) rfl)
                  clear z273 z274 z275 z276 z277 z278 z279
                  exact mv_vret d_TrustDeskModel_readRule_270 rfl ⟨_, I297, rfl, R299, (rW.of E314.1 (E314.s yS (by decide)) (fun w9 => by have u91 : rv M261 o0 19 = 0 := (by omega); have := f271.o u91; have := f272.o u91; have u92 : rv M205 o0 19 = 0 := (by omega); have := f219.o u92; have := f220.o u92; have := f216.o u92; have u93 : rv M40 o0 19 = 0 := (by omega); have := f57.o u93; have := f58.o u93; exact rG.step yG yR E314 w9 K317 (by have := yR.2 6 _ _ rfl 44; omega) (by have := R299.1 15 _ _ rfl; have := R299.1 16 _ _ rfl; have := R299.1 19 _ _ rfl; omega) (by have := R299.1 15 _ _ rfl; have := R299.1 16 _ _ rfl; have := R299.1 19 _ _ rfl; omega) (fun h9 => by exfalso; have := R299.1 15 _ _ rfl; have := R299.1 16 _ _ rfl; have := R299.1 19 _ _ rfl; omega) (fun h9 => (by have := R299.1 15 _ _ rfl; have := R299.1 16 _ _ rfl; have := R299.1 19 _ _ rfl; omega)) (by have := R299.1 15 _ _ rfl; have := R299.1 16 _ _ rfl; have := R299.1 19 _ _ rfl; omega) K318)), (rO.of E314 K317 (by have := yR.2 6 _ _ rfl 44; omega)), ⟨E314.2.1, fun w9 => by skip; have := E314.w2 w9; omega⟩, (fun w9 => by have u91 : rv M261 o0 19 = 0 := (by omega); have := f271.o u91; have := f272.o u91; have u92 : rv M205 o0 19 = 0 := (by omega); have := f219.o u92; have := f220.o u92; have := f216.o u92; have u93 : rv M40 o0 19 = 0 := (by omega); have := f57.o u93; have := f58.o u93; omega), (by first | (have hlo : p_lo (p_wi pb pn ps.2.2) = 1 := (by unfold p_lo; split <;> omega); have hhi : p_hi (p_wi pb pn ps.2.2) = 40 := (by unfold p_hi; (repeat' split) <;> omega); rw [show p_rul pb pn pa pc9 ps = s284 from (by unfold p_rul; unfold p_bar; rw [hlo, hhi]; (try simp only [e69, e232, e285]); ((repeat' (first | (with_reducible rfl) | split)) <;> (first | ((try simp only [e69, e232, e285]); done) | ((try simp only [e69, e232, e285]); first | exact p_sg_Z _ (by omega) | exact (p_sg_Z _ (by omega)).symm | omega) | (exfalso; omega))))]; exact Z9320) | (exfalso; have := R299.1 15 _ _ rfl; have := R299.1 16 _ _ rfl; have := R299.1 19 _ _ rfl; omega)), (fun w9 => by have u91 : rv M261 o0 19 = 0 := (by omega); have := f271.o u91; have := f272.o u91; have u92 : rv M205 o0 19 = 0 := (by omega); have := f219.o u92; have := f220.o u92; have := f216.o u92; have u93 : rv M40 o0 19 = 0 := (by omega); have := f57.o u93; have := f58.o u93; omega), K319, K317, (fun w9 => by have u91 : rv M261 o0 19 = 0 := (by omega); have := f271.o u91; have := f272.o u91; have u92 : rv M205 o0 19 = 0 := (by omega); have := f219.o u92; have := f220.o u92; have := f216.o u92; have u93 : rv M40 o0 19 = 0 := (by omega); have := f57.o u93; have := f58.o u93; unfold rwA; omega)⟩
                · refine mv_sipush (v := 720) d_TrustDeskModel_readRule_229 (by decide) ?_
                  refine mv_goto (tgt := 247) d_TrustDeskModel_readRule_232 (by decide) ?_
                  obtain ⟨_, b327, -⟩ := I44.1 _ _ t56
                  have : (1 : Int32).toInt = 1 := by decide
                  have : (720 : Int32).toInt = 720 := by decide
                  refine mv_callV (kc' := 0) (ks' := 0) (As := [.int 1, .int 720]) (st9 := [.int 720, .int 1, .ref o0, .int v46, .ref a198]) d_TrustDeskModel_readRule_247 lV_TrustDeskModel_317 b327 rfl (tc_TrustDeskModel_number_x (d := (d + 3)) (x9 := x9) (o0 := o0) (x1 := 1) (x2 := 720) t56 R47 E63.1 (E63.s yS (by decide)) f54 I44.start) rfl (Nat.le_of_ble_eq_true rfl) (Nat.le_of_ble_eq_true rfl) (Nat.le_of_ble_eq_true rfl) (hst := rfl) (fun b321r M322 n323 b321 => ?_)
                  obtain ⟨T324, J325, v328, rfl, R329, f330, f331, f332, f333⟩ := b321
                  have I326 := I44.call J325 (tm_sub (by decide)) (Or.inl rfl)
                  have t334 := J325.up t56
                  have t335 := J325.up t_a198
                  have := f330.2.1
                  have f336 := Im.i f330.w.2
                  have f337 := Im.i f330.w2
                  replace f333 := Im.i f333
                  have z338 := (rv_c I44 J325 (I44.up h_o0) (k := 22) rfl).trans z60
                  have z339 := (rv_c I44 J325 (I44.up h_o0) (k := 24) rfl).trans z61
                  have z340 := (ra_call I44 J325 (I44.up h_o0) (k := 5) rfl rfl rfl 44).trans z62
                  have z341 := (ra_call I44 J325 (I44.up h_o0) (k := 6) rfl rfl rfl 44)
                  have z342 := (ra_call I44 J325 (I44.up h_o0) (k := 7) rfl rfl rfl ((880 + ra M0 o0 6 44).toNat))
                  have z343 := (ra_call I44 J325 (I44.up h_o0) (k := 10) rfl rfl rfl ((880 + ra M0 o0 6 44).toNat))
                  have E344 : rE M0 M322 o0 0 2 := E63.trans f330 (by decide) (yR.2 5 _ _ rfl 44).1 (by decide) (by decide)
                  have K345 : rK M0 M322 o0 ((880 + ra M0 o0 6 44).toNat) := K65.same (sA_c I44 J325 (I44.up h_o0) (by decide +kernel))
                  have K346 : nN M322 o0 := K66.same (sA_c I44 J325 (I44.up h_o0) (by decide +kernel)) (sF_c I44 J325 (I44.up h_o0) (by decide +kernel))
                  have K347 : ∀ i : Nat, i ≠ 44 → ra M322 o0 6 i = ra M0 o0 6 i := (by have e9 := ((sA_c I44 J325 (I44.up h_o0) (by decide +kernel)) : sA [6] _ _ _) 6 rfl; rw [e9]; exact K67)
                  rw [show (1 : Int32).toInt = 1 from by decide] at f332
                  rw [show (720 : Int32).toInt = 720 from by decide] at f332
                  obtain ⟨s348, e349⟩ : ∃ s9 : p_S, p_num pb pn 1 720 s68 = s9 := ⟨_, rfl⟩
                  rw [e349] at f332
                  have := f332.w
                  have : p_nm pb pn s68.2.2 = p_nm pb pn (ps.2.2 + 1) := by rw [← e69]; rfl
                  clear z60 z61 z62
                  have q350 := J325.keep t56 (by decide) q70
                  have t351 := J325.up t71
                  have q352 := J325.keep t56 (by decide) q197
                  refine tr_iastR (k := 8) I326 R329 (I326.up h_o0) q352 t335 (by decide) (by decide) (fun lo hi h => by cases h; have := R329.1 15 _ _ rfl; have := R329.1 16 _ _ rfl; have := R329.1 19 _ _ rfl; exact ⟨by show ((-1) : Int) ≤ v328.toInt; omega, by show v328.toInt ≤ (720 : Int); omega⟩) (Or.inl (by decide)) d_TrustDeskModel_readRule_250 (vp_in_iff.mpr (by have := R329.1 15 _ _ rfl; have := R329.1 16 _ _ rfl; have := R329.1 19 _ _ rfl; omega)) (fun M353 I354 K355 R356 E357 A358 V359 => ?_)
                  have z360 := (V359 15)
                  have z361 := (V359 16)
                  have z362 := (V359 17)
                  have z363 := (V359 19)
                  have z364 := (V359 22).trans z338
                  have z365 := (V359 24).trans z339
                  have z366 := (A358 5 (by decide) rfl 44).trans z340
                  have z367 := (A358 6 (by decide) rfl 44).trans z341
                  have z368 := (A358 7 (by decide) rfl ((880 + ra M0 o0 6 44).toNat)).trans z342
                  have z369 := (A358 10 (by decide) rfl ((880 + ra M0 o0 6 44).toNat)).trans z343
                  have E370 : rE M0 M353 o0 0 2 := E344.same (fun k _ _ => V359 k) (fun k h1 h2 => A358 k (by omega) (by rcases (show k = 4 ∨ k = 5 by omega) with rfl | rfl <;> rfl))
                  have h371 : (880 + ra M0 o0 6 44).toNat = v46.toNatClampNeg := by have := mz_nat9 (i := v46) (by have := R329.1 15 _ _ rfl; have := R329.1 16 _ _ rfl; have := R329.1 19 _ _ rfl; omega); have := R329.1 15 _ _ rfl; have := R329.1 16 _ _ rfl; have := R329.1 19 _ _ rfl; omega
                  have z372 : ra M353 o0 8 ((880 + ra M0 o0 6 44).toNat) = v328.toInt := (E357 _).trans (if_pos h371)
                  have K373 : rK M0 M353 o0 ((880 + ra M0 o0 6 44).toNat) := K345.st A358 E357 (by have := mz_nat9 (i := v46) (by have := R329.1 15 _ _ rfl; have := R329.1 16 _ _ rfl; have := R329.1 19 _ _ rfl; omega); have := R329.1 15 _ _ rfl; have := R329.1 16 _ _ rfl; have := R329.1 19 _ _ rfl; omega)
                  have K374 : nN M353 o0 := K346.same (sA_a A358 (by decide +kernel)) (sF_a V359)
                  have K375 : ∀ i : Nat, i ≠ 44 → ra M353 o0 6 i = ra M0 o0 6 i := (by have e9 := ((sA_a A358 (by decide +kernel)) : sA [6] _ _ _) 6 rfl; rw [e9]; exact K347)
                  have Z9376 : pO M353 o0 pb pn pa s348 := f332.same (fun k _ _ => V359 k) (V359 23) (A358 13 (by decide) rfl)
                  clear z338 z339 z340 z341 z342 z343
                  refine mv_aload_n d_TrustDeskModel_readRule_251 rfl rfl ?_
                  refine mv_bipush (v := 59) d_TrustDeskModel_readRule_252 (by decide) ?_
                  obtain ⟨_, b383, -⟩ := I354.1 _ _ t334
                  have : (59 : Int32).toInt = 59 := by decide
                  refine mv_callV (kc' := 0) (ks' := 0) (As := [.int 59]) (st9 := [.int 59, .ref o0]) d_TrustDeskModel_readRule_254 lV_TrustDeskModel_291 b383 rfl (tc_TrustDeskModel_wantSign_x (d := (d + 3)) (x9 := x9) (o0 := o0) (x1 := 59) t334 R356 E370.1 (E370.s yS (by decide)) (by decide) Z9376 I354.start) rfl (Nat.le_of_ble_eq_true rfl) (Nat.le_of_ble_eq_true rfl) (Nat.le_of_ble_eq_true rfl) (hst := rfl) (fun b377r M378 n379 b377 => ?_)
                  obtain ⟨T380, J381, rfl, R384, f385, f386⟩ := b377
                  have I382 := I354.call J381 (tm_sub (by decide)) (Or.inl rfl)
                  have t387 := J381.up t334
                  have := f385.2.1
                  have f388 := Im.i f385.w.2
                  have f389 := Im.i f385.w2
                  have z390 := (rv_c I354 J381 (I354.up h_o0) (k := 22) rfl).trans z364
                  have z391 := (rv_c I354 J381 (I354.up h_o0) (k := 24) rfl).trans z365
                  have z392 := (ra_call I354 J381 (I354.up h_o0) (k := 5) rfl rfl rfl 44).trans z366
                  have z393 := (ra_call I354 J381 (I354.up h_o0) (k := 6) rfl rfl rfl 44).trans z367
                  have z394 := (ra_call I354 J381 (I354.up h_o0) (k := 7) rfl rfl rfl ((880 + ra M0 o0 6 44).toNat)).trans z368
                  have z395 := (ra_call I354 J381 (I354.up h_o0) (k := 10) rfl rfl rfl ((880 + ra M0 o0 6 44).toNat)).trans z369
                  have z396 := (ra_call I354 J381 (I354.up h_o0) (k := 8) rfl rfl rfl ((880 + ra M0 o0 6 44).toNat)).trans z372
                  have E397 : rE M0 M378 o0 0 3 := E370.trans f385 (by decide) (yR.2 5 _ _ rfl 44).1 (by decide) (by decide)
                  have K398 : rK M0 M378 o0 ((880 + ra M0 o0 6 44).toNat) := K373.same (sA_c I354 J381 (I354.up h_o0) (by decide +kernel))
                  have K399 : nN M378 o0 := K374.same (sA_c I354 J381 (I354.up h_o0) (by decide +kernel)) (sF_c I354 J381 (I354.up h_o0) (by decide +kernel))
                  have K400 : ∀ i : Nat, i ≠ 44 → ra M378 o0 6 i = ra M0 o0 6 i := (by have e9 := ((sA_c I354 J381 (I354.up h_o0) (by decide +kernel)) : sA [6] _ _ _) 6 rfl; rw [e9]; exact K375)
                  rw [show (59 : Int32).toInt = 59 from by decide] at f386
                  obtain ⟨s401, e402⟩ : ∃ s9 : p_S, p_sg pb pn 59 s348 = s9 := ⟨_, rfl⟩
                  rw [e402] at f386
                  have := f386.w
                  clear z364 z365 z366 z367 z368 z369 z372
                  have q403 := J381.keep t334 (by decide) (K355 _ 13 6 _ q350)
                  have t404 := J381.up t351
                  have q405 := J381.keep t334 (by decide) (K355 _ 13 8 _ q352)
                  have t406 := J381.up t335
                  refine mv_aload_n d_TrustDeskModel_readRule_257 rfl rfl ?_
                  obtain ⟨a408, q407, t_a408⟩ := tm_atR I382 t387 (k := 12) rfl
                  refine tr_getK q407 d_TrustDeskModel_readRule_258 f_TrustDeskModel_41_13 ?_
                  refine mv_iload_n d_TrustDeskModel_readRule_261 rfl rfl ?_
                  refine mv_aload_n d_TrustDeskModel_readRule_262 rfl rfl ?_
                  obtain ⟨a410, q409, t_a410⟩ := tm_atR I382 t387 (k := 5) rfl
                  refine tr_getK q409 d_TrustDeskModel_readRule_263 f_TrustDeskModel_20_13 ?_
                  refine mv_bipush (v := 44) d_TrustDeskModel_readRule_266 (by decide) ?_
                  refine tr_ialdR (o := o0) (k := 5) I382 q409 t_a410 (by decide) d_TrustDeskModel_readRule_268 (by unfold vp_in; decide) (fun v411 e412 => ?_)
                  have := R384.a (k := 5) rfl (44 : Int32).toNatClampNeg
                  have : v411.toInt = ra M378 o0 5 44 := e412
                  have : v411.toInt = _ := Eq.trans e412 z392
                  refine tr_iastR (k := 12) I382 R384 (I382.up h_o0) q407 t_a408 (by decide) (by decide) (fun lo hi h => by cases h; have := R384.1 15 _ _ rfl; have := R384.1 16 _ _ rfl; have := R384.1 19 _ _ rfl; exact ⟨by show (0 : Int) ≤ v411.toInt; omega, by show v411.toInt ≤ (400 : Int); omega⟩) (Or.inl (by decide)) d_TrustDeskModel_readRule_269 (vp_in_iff.mpr (by have := R384.1 15 _ _ rfl; have := R384.1 16 _ _ rfl; have := R384.1 19 _ _ rfl; omega)) (fun M413 I414 K415 R416 E417 A418 V419 => ?_)
                  have z420 := (V419 15)
                  have z421 := (V419 16)
                  have z422 := (V419 17)
                  have z423 := (V419 19)
                  have z424 := (V419 22).trans z390
                  have z425 := (V419 24).trans z391
                  have z426 := (A418 5 (by decide) rfl 44).trans z392
                  have z427 := (A418 6 (by decide) rfl 44).trans z393
                  have z428 := (A418 7 (by decide) rfl ((880 + ra M0 o0 6 44).toNat)).trans z394
                  have z429 := (A418 10 (by decide) rfl ((880 + ra M0 o0 6 44).toNat)).trans z395
                  have z430 := (A418 8 (by decide) rfl ((880 + ra M0 o0 6 44).toNat)).trans z396
                  have E431 : rE M0 M413 o0 0 3 := E397.same (fun k _ _ => V419 k) (fun k h1 h2 => A418 k (by omega) (by rcases (show k = 4 ∨ k = 5 by omega) with rfl | rfl <;> rfl))
                  have h432 : (880 + ra M0 o0 6 44).toNat = v46.toNatClampNeg := by have := mz_nat9 (i := v46) (by have := R384.1 15 _ _ rfl; have := R384.1 16 _ _ rfl; have := R384.1 19 _ _ rfl; omega); have := R384.1 15 _ _ rfl; have := R384.1 16 _ _ rfl; have := R384.1 19 _ _ rfl; omega
                  have z433 : ra M413 o0 12 ((880 + ra M0 o0 6 44).toNat) = v411.toInt := (E417 _).trans (if_pos h432)
                  have K434 : rK M0 M413 o0 ((880 + ra M0 o0 6 44).toNat) := K398.st A418 E417 (by have := mz_nat9 (i := v46) (by have := R384.1 15 _ _ rfl; have := R384.1 16 _ _ rfl; have := R384.1 19 _ _ rfl; omega); have := R384.1 15 _ _ rfl; have := R384.1 16 _ _ rfl; have := R384.1 19 _ _ rfl; omega)
                  have K435 : nN M413 o0 := K399.same (sA_a A418 (by decide +kernel)) (sF_a V419)
                  have K436 : ∀ i : Nat, i ≠ 44 → ra M413 o0 6 i = ra M0 o0 6 i := (by have e9 := ((sA_a A418 (by decide +kernel)) : sA [6] _ _ _) 6 rfl; rw [e9]; exact K400)
                  have Z9437 : pO M413 o0 pb pn pa s401 := f386.same (fun k _ _ => V419 k) (V419 23) (A418 13 (by decide) rfl)
                  clear z390 z391 z392 z393 z394 z395 z396
                  exact mv_vret d_TrustDeskModel_readRule_270 rfl ⟨_, I414, rfl, R416, (rW.of E431.1 (E431.s yS (by decide)) (fun w9 => by have u91 : rv M378 o0 19 = 0 := (by omega); have := f388.o u91; have := f389.o u91; have u92 : rv M322 o0 19 = 0 := (by omega); have := f336.o u92; have := f337.o u92; have := f333.o u92; have u93 : rv M40 o0 19 = 0 := (by omega); have := f57.o u93; have := f58.o u93; exact rG.step yG yR E431 w9 K434 (by have := yR.2 6 _ _ rfl 44; omega) (by have := R416.1 15 _ _ rfl; have := R416.1 16 _ _ rfl; have := R416.1 19 _ _ rfl; omega) (by have := R416.1 15 _ _ rfl; have := R416.1 16 _ _ rfl; have := R416.1 19 _ _ rfl; omega) (fun h9 => by exfalso; have := R416.1 15 _ _ rfl; have := R416.1 16 _ _ rfl; have := R416.1 19 _ _ rfl; omega) (fun h9 => (by have := R416.1 15 _ _ rfl; have := R416.1 16 _ _ rfl; have := R416.1 19 _ _ rfl; omega)) (by have := R416.1 15 _ _ rfl; have := R416.1 16 _ _ rfl; have := R416.1 19 _ _ rfl; omega) K435)), (rO.of E431 K434 (by have := yR.2 6 _ _ rfl 44; omega)), ⟨E431.2.1, fun w9 => by skip; have := E431.w2 w9; omega⟩, (fun w9 => by have u91 : rv M378 o0 19 = 0 := (by omega); have := f388.o u91; have := f389.o u91; have u92 : rv M322 o0 19 = 0 := (by omega); have := f336.o u92; have := f337.o u92; have := f333.o u92; have u93 : rv M40 o0 19 = 0 := (by omega); have := f57.o u93; have := f58.o u93; omega), (by first | (have hlo : p_lo (p_wi pb pn ps.2.2) = 1 := (by unfold p_lo; split <;> omega); have hhi : p_hi (p_wi pb pn ps.2.2) = 720 := (by unfold p_hi; (repeat' split) <;> omega); rw [show p_rul pb pn pa pc9 ps = s401 from (by unfold p_rul; unfold p_bar; rw [hlo, hhi]; (try simp only [e69, e349, e402]); ((repeat' (first | (with_reducible rfl) | split)) <;> (first | ((try simp only [e69, e349, e402]); done) | ((try simp only [e69, e349, e402]); first | exact p_sg_Z _ (by omega) | exact (p_sg_Z _ (by omega)).symm | omega) | (exfalso; omega))))]; exact Z9437) | (exfalso; have := R416.1 15 _ _ rfl; have := R416.1 16 _ _ rfl; have := R416.1 19 _ _ rfl; omega)), (fun w9 => by have u91 : rv M378 o0 19 = 0 := (by omega); have := f388.o u91; have := f389.o u91; have u92 : rv M322 o0 19 = 0 := (by omega); have := f336.o u92; have := f337.o u92; have := f333.o u92; have u93 : rv M40 o0 19 = 0 := (by omega); have := f57.o u93; have := f58.o u93; omega), K436, K434, (fun w9 => by have u91 : rv M378 o0 19 = 0 := (by omega); have := f388.o u91; have := f389.o u91; have u92 : rv M322 o0 19 = 0 := (by omega); have := f336.o u92; have := f337.o u92; have := f333.o u92; have u93 : rv M40 o0 19 = 0 := (by omega); have := f57.o u93; have := f58.o u93; unfold rwA; omega)⟩
              · refine mv_sipush (v := 360) d_TrustDeskModel_readRule_218 (by decide) ?_
                refine mv_goto (tgt := 247) d_TrustDeskModel_readRule_221 (by decide) ?_
                obtain ⟨_, b444, -⟩ := I44.1 _ _ t56
                have : (1 : Int32).toInt = 1 := by decide
                have : (360 : Int32).toInt = 360 := by decide
                refine mv_callV (kc' := 0) (ks' := 0) (As := [.int 1, .int 360]) (st9 := [.int 360, .int 1, .ref o0, .int v46, .ref a198]) d_TrustDeskModel_readRule_247 lV_TrustDeskModel_317 b444 rfl (tc_TrustDeskModel_number_x (d := (d + 3)) (x9 := x9) (o0 := o0) (x1 := 1) (x2 := 360) t56 R47 E63.1 (E63.s yS (by decide)) f54 I44.start) rfl (Nat.le_of_ble_eq_true rfl) (Nat.le_of_ble_eq_true rfl) (Nat.le_of_ble_eq_true rfl) (hst := rfl) (fun b438r M439 n440 b438 => ?_)
                obtain ⟨T441, J442, v445, rfl, R446, f447, f448, f449, f450⟩ := b438
                have I443 := I44.call J442 (tm_sub (by decide)) (Or.inl rfl)
                have t451 := J442.up t56
                have t452 := J442.up t_a198
                have := f447.2.1
                have f453 := Im.i f447.w.2
                have f454 := Im.i f447.w2
                replace f450 := Im.i f450
                have z455 := (rv_c I44 J442 (I44.up h_o0) (k := 22) rfl).trans z60
                have z456 := (rv_c I44 J442 (I44.up h_o0) (k := 24) rfl).trans z61
                have z457 := (ra_call I44 J442 (I44.up h_o0) (k := 5) rfl rfl rfl 44).trans z62
                have z458 := (ra_call I44 J442 (I44.up h_o0) (k := 6) rfl rfl rfl 44)
                have z459 := (ra_call I44 J442 (I44.up h_o0) (k := 7) rfl rfl rfl ((880 + ra M0 o0 6 44).toNat))
                have z460 := (ra_call I44 J442 (I44.up h_o0) (k := 10) rfl rfl rfl ((880 + ra M0 o0 6 44).toNat))
                have E461 : rE M0 M439 o0 0 2 := E63.trans f447 (by decide) (yR.2 5 _ _ rfl 44).1 (by decide) (by decide)
                have K462 : rK M0 M439 o0 ((880 + ra M0 o0 6 44).toNat) := K65.same (sA_c I44 J442 (I44.up h_o0) (by decide +kernel))
                have K463 : nN M439 o0 := K66.same (sA_c I44 J442 (I44.up h_o0) (by decide +kernel)) (sF_c I44 J442 (I44.up h_o0) (by decide +kernel))
                have K464 : ∀ i : Nat, i ≠ 44 → ra M439 o0 6 i = ra M0 o0 6 i := (by have e9 := ((sA_c I44 J442 (I44.up h_o0) (by decide +kernel)) : sA [6] _ _ _) 6 rfl; rw [e9]; exact K67)
                rw [show (1 : Int32).toInt = 1 from by decide] at f449
                rw [show (360 : Int32).toInt = 360 from by decide] at f449
                obtain ⟨s465, e466⟩ : ∃ s9 : p_S, p_num pb pn 1 360 s68 = s9 := ⟨_, rfl⟩
                rw [e466] at f449
                have := f449.w
                have : p_nm pb pn s68.2.2 = p_nm pb pn (ps.2.2 + 1) := by rw [← e69]; rfl
                clear z60 z61 z62
                have q467 := J442.keep t56 (by decide) q70
                have t468 := J442.up t71
                have q469 := J442.keep t56 (by decide) q197
                refine tr_iastR (k := 8) I443 R446 (I443.up h_o0) q469 t452 (by decide) (by decide) (fun lo hi h => by cases h; have := R446.1 15 _ _ rfl; have := R446.1 16 _ _ rfl; have := R446.1 19 _ _ rfl; exact ⟨by show ((-1) : Int) ≤ v445.toInt; omega, by show v445.toInt ≤ (720 : Int); omega⟩) (Or.inl (by decide)) d_TrustDeskModel_readRule_250 (vp_in_iff.mpr (by have := R446.1 15 _ _ rfl; have := R446.1 16 _ _ rfl; have := R446.1 19 _ _ rfl; omega)) (fun M470 I471 K472 R473 E474 A475 V476 => ?_)
                have z477 := (V476 15)
                have z478 := (V476 16)
                have z479 := (V476 17)
                have z480 := (V476 19)
                have z481 := (V476 22).trans z455
                have z482 := (V476 24).trans z456
                have z483 := (A475 5 (by decide) rfl 44).trans z457
                have z484 := (A475 6 (by decide) rfl 44).trans z458
                have z485 := (A475 7 (by decide) rfl ((880 + ra M0 o0 6 44).toNat)).trans z459
                have z486 := (A475 10 (by decide) rfl ((880 + ra M0 o0 6 44).toNat)).trans z460
                have E487 : rE M0 M470 o0 0 2 := E461.same (fun k _ _ => V476 k) (fun k h1 h2 => A475 k (by omega) (by rcases (show k = 4 ∨ k = 5 by omega) with rfl | rfl <;> rfl))
                have h488 : (880 + ra M0 o0 6 44).toNat = v46.toNatClampNeg := by have := mz_nat9 (i := v46) (by have := R446.1 15 _ _ rfl; have := R446.1 16 _ _ rfl; have := R446.1 19 _ _ rfl; omega); have := R446.1 15 _ _ rfl; have := R446.1 16 _ _ rfl; have := R446.1 19 _ _ rfl; omega
                have z489 : ra M470 o0 8 ((880 + ra M0 o0 6 44).toNat) = v445.toInt := (E474 _).trans (if_pos h488)
                have K490 : rK M0 M470 o0 ((880 + ra M0 o0 6 44).toNat) := K462.st A475 E474 (by have := mz_nat9 (i := v46) (by have := R446.1 15 _ _ rfl; have := R446.1 16 _ _ rfl; have := R446.1 19 _ _ rfl; omega); have := R446.1 15 _ _ rfl; have := R446.1 16 _ _ rfl; have := R446.1 19 _ _ rfl; omega)
                have K491 : nN M470 o0 := K463.same (sA_a A475 (by decide +kernel)) (sF_a V476)
                have K492 : ∀ i : Nat, i ≠ 44 → ra M470 o0 6 i = ra M0 o0 6 i := (by have e9 := ((sA_a A475 (by decide +kernel)) : sA [6] _ _ _) 6 rfl; rw [e9]; exact K464)
                have Z9493 : pO M470 o0 pb pn pa s465 := f449.same (fun k _ _ => V476 k) (V476 23) (A475 13 (by decide) rfl)
                clear z455 z456 z457 z458 z459 z460
                refine mv_aload_n d_TrustDeskModel_readRule_251 rfl rfl ?_
                refine mv_bipush (v := 59) d_TrustDeskModel_readRule_252 (by decide) ?_
                obtain ⟨_, b500, -⟩ := I471.1 _ _ t451
                have : (59 : Int32).toInt = 59 := by decide
                refine mv_callV (kc' := 0) (ks' := 0) (As := [.int 59]) (st9 := [.int 59, .ref o0]) d_TrustDeskModel_readRule_254 lV_TrustDeskModel_291 b500 rfl (tc_TrustDeskModel_wantSign_x (d := (d + 3)) (x9 := x9) (o0 := o0) (x1 := 59) t451 R473 E487.1 (E487.s yS (by decide)) (by decide) Z9493 I471.start) rfl (Nat.le_of_ble_eq_true rfl) (Nat.le_of_ble_eq_true rfl) (Nat.le_of_ble_eq_true rfl) (hst := rfl) (fun b494r M495 n496 b494 => ?_)
                obtain ⟨T497, J498, rfl, R501, f502, f503⟩ := b494
                have I499 := I471.call J498 (tm_sub (by decide)) (Or.inl rfl)
                have t504 := J498.up t451
                have := f502.2.1
                have f505 := Im.i f502.w.2
                have f506 := Im.i f502.w2
                have z507 := (rv_c I471 J498 (I471.up h_o0) (k := 22) rfl).trans z481
                have z508 := (rv_c I471 J498 (I471.up h_o0) (k := 24) rfl).trans z482
                have z509 := (ra_call I471 J498 (I471.up h_o0) (k := 5) rfl rfl rfl 44).trans z483
                have z510 := (ra_call I471 J498 (I471.up h_o0) (k := 6) rfl rfl rfl 44).trans z484
                have z511 := (ra_call I471 J498 (I471.up h_o0) (k := 7) rfl rfl rfl ((880 + ra M0 o0 6 44).toNat)).trans z485
                have z512 := (ra_call I471 J498 (I471.up h_o0) (k := 10) rfl rfl rfl ((880 + ra M0 o0 6 44).toNat)).trans z486
                have z513 := (ra_call I471 J498 (I471.up h_o0) (k := 8) rfl rfl rfl ((880 + ra M0 o0 6 44).toNat)).trans z489
                have E514 : rE M0 M495 o0 0 3 := E487.trans f502 (by decide) (yR.2 5 _ _ rfl 44).1 (by decide) (by decide)
                have K515 : rK M0 M495 o0 ((880 + ra M0 o0 6 44).toNat) := K490.same (sA_c I471 J498 (I471.up h_o0) (by decide +kernel))
                have K516 : nN M495 o0 := K491.same (sA_c I471 J498 (I471.up h_o0) (by decide +kernel)) (sF_c I471 J498 (I471.up h_o0) (by decide +kernel))
                have K517 : ∀ i : Nat, i ≠ 44 → ra M495 o0 6 i = ra M0 o0 6 i := (by have e9 := ((sA_c I471 J498 (I471.up h_o0) (by decide +kernel)) : sA [6] _ _ _) 6 rfl; rw [e9]; exact K492)
                rw [show (59 : Int32).toInt = 59 from by decide] at f503
                obtain ⟨s518, e519⟩ : ∃ s9 : p_S, p_sg pb pn 59 s465 = s9 := ⟨_, rfl⟩
                rw [e519] at f503
                have := f503.w
                clear z481 z482 z483 z484 z485 z486 z489
                have q520 := J498.keep t451 (by decide) (K472 _ 13 6 _ q467)
                have t521 := J498.up t468
                have q522 := J498.keep t451 (by decide) (K472 _ 13 8 _ q469)
                have t523 := J498.up t452
                refine mv_aload_n d_TrustDeskModel_readRule_257 rfl rfl ?_
                obtain ⟨a525, q524, t_a525⟩ := tm_atR I499 t504 (k := 12) rfl
                refine tr_getK q524 d_TrustDeskModel_readRule_258 f_TrustDeskModel_41_13 ?_
                refine mv_iload_n d_TrustDeskModel_readRule_261 rfl rfl ?_
                refine mv_aload_n d_TrustDeskModel_readRule_262 rfl rfl ?_
                obtain ⟨a527, q526, t_a527⟩ := tm_atR I499 t504 (k := 5) rfl
                refine tr_getK q526 d_TrustDeskModel_readRule_263 f_TrustDeskModel_20_13 ?_
                refine mv_bipush (v := 44) d_TrustDeskModel_readRule_266 (by decide) ?_
                refine tr_ialdR (o := o0) (k := 5) I499 q526 t_a527 (by decide) d_TrustDeskModel_readRule_268 (by unfold vp_in; decide) (fun v528 e529 => ?_)
                have := R501.a (k := 5) rfl (44 : Int32).toNatClampNeg
                have : v528.toInt = ra M495 o0 5 44 := e529
                have : v528.toInt = _ := Eq.trans e529 z509
                refine tr_iastR (k := 12) I499 R501 (I499.up h_o0) q524 t_a525 (by decide) (by decide) (fun lo hi h => by cases h; have := R501.1 15 _ _ rfl; have := R501.1 16 _ _ rfl; have := R501.1 19 _ _ rfl; exact ⟨by show (0 : Int) ≤ v528.toInt; omega, by show v528.toInt ≤ (400 : Int); omega⟩) (Or.inl (by decide)) d_TrustDeskModel_readRule_269 (vp_in_iff.mpr (by have := R501.1 15 _ _ rfl; have := R501.1 16 _ _ rfl; have := R501.1 19 _ _ rfl; omega)) (fun M530 I531 K532 R533 E534 A535 V536 => ?_)
                have z537 := (V536 15)
                have z538 := (V536 16)
                have z539 := (V536 17)
                have z540 := (V536 19)
                have z541 := (V536 22).trans z507
                have z542 := (V536 24).trans z508
                have z543 := (A535 5 (by decide) rfl 44).trans z509
                have z544 := (A535 6 (by decide) rfl 44).trans z510
                have z545 := (A535 7 (by decide) rfl ((880 + ra M0 o0 6 44).toNat)).trans z511
                have z546 := (A535 10 (by decide) rfl ((880 + ra M0 o0 6 44).toNat)).trans z512
                have z547 := (A535 8 (by decide) rfl ((880 + ra M0 o0 6 44).toNat)).trans z513
                have E548 : rE M0 M530 o0 0 3 := E514.same (fun k _ _ => V536 k) (fun k h1 h2 => A535 k (by omega) (by rcases (show k = 4 ∨ k = 5 by omega) with rfl | rfl <;> rfl))
                have h549 : (880 + ra M0 o0 6 44).toNat = v46.toNatClampNeg := by have := mz_nat9 (i := v46) (by have := R501.1 15 _ _ rfl; have := R501.1 16 _ _ rfl; have := R501.1 19 _ _ rfl; omega); have := R501.1 15 _ _ rfl; have := R501.1 16 _ _ rfl; have := R501.1 19 _ _ rfl; omega
                have z550 : ra M530 o0 12 ((880 + ra M0 o0 6 44).toNat) = v528.toInt := (E534 _).trans (if_pos h549)
                have K551 : rK M0 M530 o0 ((880 + ra M0 o0 6 44).toNat) := K515.st A535 E534 (by have := mz_nat9 (i := v46) (by have := R501.1 15 _ _ rfl; have := R501.1 16 _ _ rfl; have := R501.1 19 _ _ rfl; omega); have := R501.1 15 _ _ rfl; have := R501.1 16 _ _ rfl; have := R501.1 19 _ _ rfl; omega)
                have K552 : nN M530 o0 := K516.same (sA_a A535 (by decide +kernel)) (sF_a V536)
                have K553 : ∀ i : Nat, i ≠ 44 → ra M530 o0 6 i = ra M0 o0 6 i := (by have e9 := ((sA_a A535 (by decide +kernel)) : sA [6] _ _ _) 6 rfl; rw [e9]; exact K517)
                have Z9554 : pO M530 o0 pb pn pa s518 := f503.same (fun k _ _ => V536 k) (V536 23) (A535 13 (by decide) rfl)
                clear z507 z508 z509 z510 z511 z512 z513
                exact mv_vret d_TrustDeskModel_readRule_270 rfl ⟨_, I531, rfl, R533, (rW.of E548.1 (E548.s yS (by decide)) (fun w9 => by have u91 : rv M495 o0 19 = 0 := (by omega); have := f505.o u91; have := f506.o u91; have u92 : rv M439 o0 19 = 0 := (by omega); have := f453.o u92; have := f454.o u92; have := f450.o u92; have u93 : rv M40 o0 19 = 0 := (by omega); have := f57.o u93; have := f58.o u93; exact rG.step yG yR E548 w9 K551 (by have := yR.2 6 _ _ rfl 44; omega) (by have := R533.1 15 _ _ rfl; have := R533.1 16 _ _ rfl; have := R533.1 19 _ _ rfl; omega) (by have := R533.1 15 _ _ rfl; have := R533.1 16 _ _ rfl; have := R533.1 19 _ _ rfl; omega) (fun h9 => by exfalso; have := R533.1 15 _ _ rfl; have := R533.1 16 _ _ rfl; have := R533.1 19 _ _ rfl; omega) (fun h9 => (by have := R533.1 15 _ _ rfl; have := R533.1 16 _ _ rfl; have := R533.1 19 _ _ rfl; omega)) (by have := R533.1 15 _ _ rfl; have := R533.1 16 _ _ rfl; have := R533.1 19 _ _ rfl; omega) K552)), (rO.of E548 K551 (by have := yR.2 6 _ _ rfl 44; omega)), ⟨E548.2.1, fun w9 => by skip; have := E548.w2 w9; omega⟩, (fun w9 => by have u91 : rv M495 o0 19 = 0 := (by omega); have := f505.o u91; have := f506.o u91; have u92 : rv M439 o0 19 = 0 := (by omega); have := f453.o u92; have := f454.o u92; have := f450.o u92; have u93 : rv M40 o0 19 = 0 := (by omega); have := f57.o u93; have := f58.o u93; omega), (by first | (have hlo : p_lo (p_wi pb pn ps.2.2) = 1 := (by unfold p_lo; split <;> omega); have hhi : p_hi (p_wi pb pn ps.2.2) = 360 := (by unfold p_hi; (repeat' split) <;> omega); rw [show p_rul pb pn pa pc9 ps = s518 from (by unfold p_rul; unfold p_bar; rw [hlo, hhi]; (try simp only [e69, e466, e519]); ((repeat' (first | (with_reducible rfl) | split)) <;> (first | ((try simp only [e69, e466, e519]); done) | ((try simp only [e69, e466, e519]); first | exact p_sg_Z _ (by omega) | exact (p_sg_Z _ (by omega)).symm | omega) | (exfalso; omega))))]; exact Z9554) | (exfalso; have := R533.1 15 _ _ rfl; have := R533.1 16 _ _ rfl; have := R533.1 19 _ _ rfl; omega)), (fun w9 => by have u91 : rv M495 o0 19 = 0 := (by omega); have := f505.o u91; have := f506.o u91; have u92 : rv M439 o0 19 = 0 := (by omega); have := f453.o u92; have := f454.o u92; have := f450.o u92; have u93 : rv M40 o0 19 = 0 := (by omega); have := f57.o u93; have := f58.o u93; omega), K553, K551, (fun w9 => by have u91 : rv M495 o0 19 = 0 := (by omega); have := f505.o u91; have := f506.o u91; have u92 : rv M439 o0 19 = 0 := (by omega); have := f453.o u92; have := f454.o u92; have := f450.o u92; have u93 : rv M40 o0 19 = 0 := (by omega); have := f57.o u93; have := f58.o u93; unfold rwA; omega)⟩
            · refine mv_bipush (v := 50) d_TrustDeskModel_readRule_198 (by decide) ?_
              refine mv_goto (tgt := 247) d_TrustDeskModel_readRule_200 (by decide) ?_
              obtain ⟨_, b561, -⟩ := I44.1 _ _ t56
              have : (1 : Int32).toInt = 1 := by decide
              have : (50 : Int32).toInt = 50 := by decide
              refine mv_callV (kc' := 0) (ks' := 0) (As := [.int 1, .int 50]) (st9 := [.int 50, .int 1, .ref o0, .int v46, .ref a198]) d_TrustDeskModel_readRule_247 lV_TrustDeskModel_317 b561 rfl (tc_TrustDeskModel_number_x (d := (d + 3)) (x9 := x9) (o0 := o0) (x1 := 1) (x2 := 50) t56 R47 E63.1 (E63.s yS (by decide)) f54 I44.start) rfl (Nat.le_of_ble_eq_true rfl) (Nat.le_of_ble_eq_true rfl) (Nat.le_of_ble_eq_true rfl) (hst := rfl) (fun b555r M556 n557 b555 => ?_)
              obtain ⟨T558, J559, v562, rfl, R563, f564, f565, f566, f567⟩ := b555
              have I560 := I44.call J559 (tm_sub (by decide)) (Or.inl rfl)
              have t568 := J559.up t56
              have t569 := J559.up t_a198
              have := f564.2.1
              have f570 := Im.i f564.w.2
              have f571 := Im.i f564.w2
              replace f567 := Im.i f567
              have z572 := (rv_c I44 J559 (I44.up h_o0) (k := 22) rfl).trans z60
              have z573 := (rv_c I44 J559 (I44.up h_o0) (k := 24) rfl).trans z61
              have z574 := (ra_call I44 J559 (I44.up h_o0) (k := 5) rfl rfl rfl 44).trans z62
              have z575 := (ra_call I44 J559 (I44.up h_o0) (k := 6) rfl rfl rfl 44)
              have z576 := (ra_call I44 J559 (I44.up h_o0) (k := 7) rfl rfl rfl ((880 + ra M0 o0 6 44).toNat))
              have z577 := (ra_call I44 J559 (I44.up h_o0) (k := 10) rfl rfl rfl ((880 + ra M0 o0 6 44).toNat))
              have E578 : rE M0 M556 o0 0 2 := E63.trans f564 (by decide) (yR.2 5 _ _ rfl 44).1 (by decide) (by decide)
              have K579 : rK M0 M556 o0 ((880 + ra M0 o0 6 44).toNat) := K65.same (sA_c I44 J559 (I44.up h_o0) (by decide +kernel))
              have K580 : nN M556 o0 := K66.same (sA_c I44 J559 (I44.up h_o0) (by decide +kernel)) (sF_c I44 J559 (I44.up h_o0) (by decide +kernel))
              have K581 : ∀ i : Nat, i ≠ 44 → ra M556 o0 6 i = ra M0 o0 6 i := (by have e9 := ((sA_c I44 J559 (I44.up h_o0) (by decide +kernel)) : sA [6] _ _ _) 6 rfl; rw [e9]; exact K67)
              rw [show (1 : Int32).toInt = 1 from by decide] at f566
              rw [show (50 : Int32).toInt = 50 from by decide] at f566
              obtain ⟨s582, e583⟩ : ∃ s9 : p_S, p_num pb pn 1 50 s68 = s9 := ⟨_, rfl⟩
              rw [e583] at f566
              have := f566.w
              have : p_nm pb pn s68.2.2 = p_nm pb pn (ps.2.2 + 1) := by rw [← e69]; rfl
              clear z60 z61 z62
              have q584 := J559.keep t56 (by decide) q70
              have t585 := J559.up t71
              have q586 := J559.keep t56 (by decide) q197
              refine tr_iastR (k := 8) I560 R563 (I560.up h_o0) q586 t569 (by decide) (by decide) (fun lo hi h => by cases h; have := R563.1 15 _ _ rfl; have := R563.1 16 _ _ rfl; have := R563.1 19 _ _ rfl; exact ⟨by show ((-1) : Int) ≤ v562.toInt; omega, by show v562.toInt ≤ (720 : Int); omega⟩) (Or.inl (by decide)) d_TrustDeskModel_readRule_250 (vp_in_iff.mpr (by have := R563.1 15 _ _ rfl; have := R563.1 16 _ _ rfl; have := R563.1 19 _ _ rfl; omega)) (fun M587 I588 K589 R590 E591 A592 V593 => ?_)
              have z594 := (V593 15)
              have z595 := (V593 16)
              have z596 := (V593 17)
              have z597 := (V593 19)
              have z598 := (V593 22).trans z572
              have z599 := (V593 24).trans z573
              have z600 := (A592 5 (by decide) rfl 44).trans z574
              have z601 := (A592 6 (by decide) rfl 44).trans z575
              have z602 := (A592 7 (by decide) rfl ((880 + ra M0 o0 6 44).toNat)).trans z576
              have z603 := (A592 10 (by decide) rfl ((880 + ra M0 o0 6 44).toNat)).trans z577
              have E604 : rE M0 M587 o0 0 2 := E578.same (fun k _ _ => V593 k) (fun k h1 h2 => A592 k (by omega) (by rcases (show k = 4 ∨ k = 5 by omega) with rfl | rfl <;> rfl))
              have h605 : (880 + ra M0 o0 6 44).toNat = v46.toNatClampNeg := by have := mz_nat9 (i := v46) (by have := R563.1 15 _ _ rfl; have := R563.1 16 _ _ rfl; have := R563.1 19 _ _ rfl; omega); have := R563.1 15 _ _ rfl; have := R563.1 16 _ _ rfl; have := R563.1 19 _ _ rfl; omega
              have z606 : ra M587 o0 8 ((880 + ra M0 o0 6 44).toNat) = v562.toInt := (E591 _).trans (if_pos h605)
              have K607 : rK M0 M587 o0 ((880 + ra M0 o0 6 44).toNat) := K579.st A592 E591 (by have := mz_nat9 (i := v46) (by have := R563.1 15 _ _ rfl; have := R563.1 16 _ _ rfl; have := R563.1 19 _ _ rfl; omega); have := R563.1 15 _ _ rfl; have := R563.1 16 _ _ rfl; have := R563.1 19 _ _ rfl; omega)
              have K608 : nN M587 o0 := K580.same (sA_a A592 (by decide +kernel)) (sF_a V593)
              have K609 : ∀ i : Nat, i ≠ 44 → ra M587 o0 6 i = ra M0 o0 6 i := (by have e9 := ((sA_a A592 (by decide +kernel)) : sA [6] _ _ _) 6 rfl; rw [e9]; exact K581)
              have Z9610 : pO M587 o0 pb pn pa s582 := f566.same (fun k _ _ => V593 k) (V593 23) (A592 13 (by decide) rfl)
              clear z572 z573 z574 z575 z576 z577
              refine mv_aload_n d_TrustDeskModel_readRule_251 rfl rfl ?_
              refine mv_bipush (v := 59) d_TrustDeskModel_readRule_252 (by decide) ?_
              obtain ⟨_, b617, -⟩ := I588.1 _ _ t568
              have : (59 : Int32).toInt = 59 := by decide
              refine mv_callV (kc' := 0) (ks' := 0) (As := [.int 59]) (st9 := [.int 59, .ref o0]) d_TrustDeskModel_readRule_254 lV_TrustDeskModel_291 b617 rfl (tc_TrustDeskModel_wantSign_x (d := (d + 3)) (x9 := x9) (o0 := o0) (x1 := 59) t568 R590 E604.1 (E604.s yS (by decide)) (by decide) Z9610 I588.start) rfl (Nat.le_of_ble_eq_true rfl) (Nat.le_of_ble_eq_true rfl) (Nat.le_of_ble_eq_true rfl) (hst := rfl) (fun b611r M612 n613 b611 => ?_)
              obtain ⟨T614, J615, rfl, R618, f619, f620⟩ := b611
              have I616 := I588.call J615 (tm_sub (by decide)) (Or.inl rfl)
              have t621 := J615.up t568
              have := f619.2.1
              have f622 := Im.i f619.w.2
              have f623 := Im.i f619.w2
              have z624 := (rv_c I588 J615 (I588.up h_o0) (k := 22) rfl).trans z598
              have z625 := (rv_c I588 J615 (I588.up h_o0) (k := 24) rfl).trans z599
              have z626 := (ra_call I588 J615 (I588.up h_o0) (k := 5) rfl rfl rfl 44).trans z600
              have z627 := (ra_call I588 J615 (I588.up h_o0) (k := 6) rfl rfl rfl 44).trans z601
              have z628 := (ra_call I588 J615 (I588.up h_o0) (k := 7) rfl rfl rfl ((880 + ra M0 o0 6 44).toNat)).trans z602
              have z629 := (ra_call I588 J615 (I588.up h_o0) (k := 10) rfl rfl rfl ((880 + ra M0 o0 6 44).toNat)).trans z603
              have z630 := (ra_call I588 J615 (I588.up h_o0) (k := 8) rfl rfl rfl ((880 + ra M0 o0 6 44).toNat)).trans z606
              have E631 : rE M0 M612 o0 0 3 := E604.trans f619 (by decide) (yR.2 5 _ _ rfl 44).1 (by decide) (by decide)
              have K632 : rK M0 M612 o0 ((880 + ra M0 o0 6 44).toNat) := K607.same (sA_c I588 J615 (I588.up h_o0) (by decide +kernel))
              have K633 : nN M612 o0 := K608.same (sA_c I588 J615 (I588.up h_o0) (by decide +kernel)) (sF_c I588 J615 (I588.up h_o0) (by decide +kernel))
              have K634 : ∀ i : Nat, i ≠ 44 → ra M612 o0 6 i = ra M0 o0 6 i := (by have e9 := ((sA_c I588 J615 (I588.up h_o0) (by decide +kernel)) : sA [6] _ _ _) 6 rfl; rw [e9]; exact K609)
              rw [show (59 : Int32).toInt = 59 from by decide] at f620
              obtain ⟨s635, e636⟩ : ∃ s9 : p_S, p_sg pb pn 59 s582 = s9 := ⟨_, rfl⟩
              rw [e636] at f620
              have := f620.w
              clear z598 z599 z600 z601 z602 z603 z606
              have q637 := J615.keep t568 (by decide) (K589 _ 13 6 _ q584)
              have t638 := J615.up t585
              have q639 := J615.keep t568 (by decide) (K589 _ 13 8 _ q586)
              have t640 := J615.up t569
              refine mv_aload_n d_TrustDeskModel_readRule_257 rfl rfl ?_
              obtain ⟨a642, q641, t_a642⟩ := tm_atR I616 t621 (k := 12) rfl
              refine tr_getK q641 d_TrustDeskModel_readRule_258 f_TrustDeskModel_41_13 ?_
              refine mv_iload_n d_TrustDeskModel_readRule_261 rfl rfl ?_
              refine mv_aload_n d_TrustDeskModel_readRule_262 rfl rfl ?_
              obtain ⟨a644, q643, t_a644⟩ := tm_atR I616 t621 (k := 5) rfl
              refine tr_getK q643 d_TrustDeskModel_readRule_263 f_TrustDeskModel_20_13 ?_
              refine mv_bipush (v := 44) d_TrustDeskModel_readRule_266 (by decide) ?_
              refine tr_ialdR (o := o0) (k := 5) I616 q643 t_a644 (by decide) d_TrustDeskModel_readRule_268 (by unfold vp_in; decide) (fun v645 e646 => ?_)
              have := R618.a (k := 5) rfl (44 : Int32).toNatClampNeg
              have : v645.toInt = ra M612 o0 5 44 := e646
              have : v645.toInt = _ := Eq.trans e646 z626
              refine tr_iastR (k := 12) I616 R618 (I616.up h_o0) q641 t_a642 (by decide) (by decide) (fun lo hi h => by cases h; have := R618.1 15 _ _ rfl; have := R618.1 16 _ _ rfl; have := R618.1 19 _ _ rfl; exact ⟨by show (0 : Int) ≤ v645.toInt; omega, by show v645.toInt ≤ (400 : Int); omega⟩) (Or.inl (by decide)) d_TrustDeskModel_readRule_269 (vp_in_iff.mpr (by have := R618.1 15 _ _ rfl; have := R618.1 16 _ _ rfl; have := R618.1 19 _ _ rfl; omega)) (fun M647 I648 K649 R650 E651 A652 V653 => ?_)
              have z654 := (V653 15)
              have z655 := (V653 16)
              have z656 := (V653 17)
              have z657 := (V653 19)
              have z658 := (V653 22).trans z624
              have z659 := (V653 24).trans z625
              have z660 := (A652 5 (by decide) rfl 44).trans z626
              have z661 := (A652 6 (by decide) rfl 44).trans z627
              have z662 := (A652 7 (by decide) rfl ((880 + ra M0 o0 6 44).toNat)).trans z628
              have z663 := (A652 10 (by decide) rfl ((880 + ra M0 o0 6 44).toNat)).trans z629
              have z664 := (A652 8 (by decide) rfl ((880 + ra M0 o0 6 44).toNat)).trans z630
              have E665 : rE M0 M647 o0 0 3 := E631.same (fun k _ _ => V653 k) (fun k h1 h2 => A652 k (by omega) (by rcases (show k = 4 ∨ k = 5 by omega) with rfl | rfl <;> rfl))
              have h666 : (880 + ra M0 o0 6 44).toNat = v46.toNatClampNeg := by have := mz_nat9 (i := v46) (by have := R618.1 15 _ _ rfl; have := R618.1 16 _ _ rfl; have := R618.1 19 _ _ rfl; omega); have := R618.1 15 _ _ rfl; have := R618.1 16 _ _ rfl; have := R618.1 19 _ _ rfl; omega
              have z667 : ra M647 o0 12 ((880 + ra M0 o0 6 44).toNat) = v645.toInt := (E651 _).trans (if_pos h666)
              have K668 : rK M0 M647 o0 ((880 + ra M0 o0 6 44).toNat) := K632.st A652 E651 (by have := mz_nat9 (i := v46) (by have := R618.1 15 _ _ rfl; have := R618.1 16 _ _ rfl; have := R618.1 19 _ _ rfl; omega); have := R618.1 15 _ _ rfl; have := R618.1 16 _ _ rfl; have := R618.1 19 _ _ rfl; omega)
              have K669 : nN M647 o0 := K633.same (sA_a A652 (by decide +kernel)) (sF_a V653)
              have K670 : ∀ i : Nat, i ≠ 44 → ra M647 o0 6 i = ra M0 o0 6 i := (by have e9 := ((sA_a A652 (by decide +kernel)) : sA [6] _ _ _) 6 rfl; rw [e9]; exact K634)
              have Z9671 : pO M647 o0 pb pn pa s635 := f620.same (fun k _ _ => V653 k) (V653 23) (A652 13 (by decide) rfl)
              clear z624 z625 z626 z627 z628 z629 z630
              exact mv_vret d_TrustDeskModel_readRule_270 rfl ⟨_, I648, rfl, R650, (rW.of E665.1 (E665.s yS (by decide)) (fun w9 => by have u91 : rv M612 o0 19 = 0 := (by omega); have := f622.o u91; have := f623.o u91; have u92 : rv M556 o0 19 = 0 := (by omega); have := f570.o u92; have := f571.o u92; have := f567.o u92; have u93 : rv M40 o0 19 = 0 := (by omega); have := f57.o u93; have := f58.o u93; exact rG.step yG yR E665 w9 K668 (by have := yR.2 6 _ _ rfl 44; omega) (by have := R650.1 15 _ _ rfl; have := R650.1 16 _ _ rfl; have := R650.1 19 _ _ rfl; omega) (by have := R650.1 15 _ _ rfl; have := R650.1 16 _ _ rfl; have := R650.1 19 _ _ rfl; omega) (fun h9 => by exfalso; have := R650.1 15 _ _ rfl; have := R650.1 16 _ _ rfl; have := R650.1 19 _ _ rfl; omega) (fun h9 => (by have := R650.1 15 _ _ rfl; have := R650.1 16 _ _ rfl; have := R650.1 19 _ _ rfl; omega)) (by have := R650.1 15 _ _ rfl; have := R650.1 16 _ _ rfl; have := R650.1 19 _ _ rfl; omega) K669)), (rO.of E665 K668 (by have := yR.2 6 _ _ rfl 44; omega)), ⟨E665.2.1, fun w9 => by skip; have := E665.w2 w9; omega⟩, (fun w9 => by have u91 : rv M612 o0 19 = 0 := (by omega); have := f622.o u91; have := f623.o u91; have u92 : rv M556 o0 19 = 0 := (by omega); have := f570.o u92; have := f571.o u92; have := f567.o u92; have u93 : rv M40 o0 19 = 0 := (by omega); have := f57.o u93; have := f58.o u93; omega), (by first | (have hlo : p_lo (p_wi pb pn ps.2.2) = 1 := (by unfold p_lo; split <;> omega); have hhi : p_hi (p_wi pb pn ps.2.2) = 50 := (by unfold p_hi; (repeat' split) <;> omega); rw [show p_rul pb pn pa pc9 ps = s635 from (by unfold p_rul; unfold p_bar; rw [hlo, hhi]; (try simp only [e69, e583, e636]); ((repeat' (first | (with_reducible rfl) | split)) <;> (first | ((try simp only [e69, e583, e636]); done) | ((try simp only [e69, e583, e636]); first | exact p_sg_Z _ (by omega) | exact (p_sg_Z _ (by omega)).symm | omega) | (exfalso; omega))))]; exact Z9671) | (exfalso; have := R650.1 15 _ _ rfl; have := R650.1 16 _ _ rfl; have := R650.1 19 _ _ rfl; omega)), (fun w9 => by have u91 : rv M612 o0 19 = 0 := (by omega); have := f622.o u91; have := f623.o u91; have u92 : rv M556 o0 19 = 0 := (by omega); have := f570.o u92; have := f571.o u92; have := f567.o u92; have u93 : rv M40 o0 19 = 0 := (by omega); have := f57.o u93; have := f58.o u93; omega), K670, K668, (fun w9 => by have u91 : rv M612 o0 19 = 0 := (by omega); have := f622.o u91; have := f623.o u91; have u92 : rv M556 o0 19 = 0 := (by omega); have := f570.o u92; have := f571.o u92; have := f567.o u92; have u93 : rv M40 o0 19 = 0 := (by omega); have := f57.o u93; have := f58.o u93; unfold rwA; omega)⟩
          · refine mv_iconst (v := 0) d_TrustDeskModel_readRule_181 (by decide) ?_
            refine mv_goto (tgt := 186) d_TrustDeskModel_readRule_182 (by decide) ?_
            refine mv_istore_n (lv' := [(3, .int 0), (2, .int v46), (1, .int v11), (0, .ref o0)]) d_TrustDeskModel_readRule_186 rfl (by decide) rfl ?_
            refine mv_aload_n d_TrustDeskModel_readRule_187 rfl rfl ?_
            obtain ⟨a673, q672, t_a673⟩ := tm_atR I44 t56 (k := 8) rfl
            refine tr_getK q672 d_TrustDeskModel_readRule_188 f_TrustDeskModel_29_13 ?_
            refine mv_iload_n d_TrustDeskModel_readRule_191 rfl rfl ?_
            refine mv_aload_n d_TrustDeskModel_readRule_192 rfl rfl ?_
            refine mv_iload_n d_TrustDeskModel_readRule_193 rfl rfl ?_
            refine mv_iload_n d_TrustDeskModel_readRule_194 rfl rfl ?_
            have := mz_hi v11
            refine mv_if_neZ (tgt := 203) (a := v11.toInt) d_TrustDeskModel_readRule_195 (by decide) rfl (fun b674 => ?_) (fun b674 => absurd b674 (by omega))
            refine mv_iload_n d_TrustDeskModel_readRule_203 rfl rfl ?_
            refine mv_iconst (v := 1) d_TrustDeskModel_readRule_204 (by decide) ?_
            have := mz_hi v11
            refine mv_icmp_neZ (tgt := 213) (a := v11.toInt) (b := 1) d_TrustDeskModel_readRule_205 (by decide) rfl (by decide) (fun b675 => ?_) (fun b675 => absurd b675 (by omega))
            refine mv_iload_n d_TrustDeskModel_readRule_213 rfl rfl ?_
            refine mv_iconst (v := 2) d_TrustDeskModel_readRule_214 (by decide) ?_
            have := mz_hi v11
            refine mv_icmp_neZ (tgt := 224) (a := v11.toInt) (b := 2) d_TrustDeskModel_readRule_215 (by decide) rfl (by decide) (fun b676 => ?_) (fun b676 => absurd b676 (by omega))
            refine mv_iload_n d_TrustDeskModel_readRule_224 rfl rfl ?_
            refine mv_iconst (v := 3) d_TrustDeskModel_readRule_225 (by decide) ?_
            have := mz_hi v11
            refine mv_icmp_neZ (tgt := 235) (a := v11.toInt) (b := 3) d_TrustDeskModel_readRule_226 (by decide) rfl (by decide) (fun b677 => ?_) (fun b677 => absurd b677 (by omega))
            refine mv_iload_n d_TrustDeskModel_readRule_235 rfl rfl ?_
            refine mv_iconst (v := 4) d_TrustDeskModel_readRule_236 (by decide) ?_
            have := mz_hi v11
            refine mv_icmp_neZ (tgt := 245) (a := v11.toInt) (b := 4) d_TrustDeskModel_readRule_237 (by decide) rfl (by decide) (fun b678 => absurd b678 (by omega)) (fun b678 => ?_)
            refine mv_bipush (v := 20) d_TrustDeskModel_readRule_240 (by decide) ?_
            refine mv_goto (tgt := 247) d_TrustDeskModel_readRule_242 (by decide) ?_
            obtain ⟨_, b685, -⟩ := I44.1 _ _ t56
            have : (0 : Int32).toInt = 0 := by decide
            have : (20 : Int32).toInt = 20 := by decide
            refine mv_callV (kc' := 0) (ks' := 0) (As := [.int 0, .int 20]) (st9 := [.int 20, .int 0, .ref o0, .int v46, .ref a673]) d_TrustDeskModel_readRule_247 lV_TrustDeskModel_317 b685 rfl (tc_TrustDeskModel_number_x (d := (d + 3)) (x9 := x9) (o0 := o0) (x1 := 0) (x2 := 20) t56 R47 E63.1 (E63.s yS (by decide)) f54 I44.start) rfl (Nat.le_of_ble_eq_true rfl) (Nat.le_of_ble_eq_true rfl) (Nat.le_of_ble_eq_true rfl) (hst := rfl) (fun b679r M680 n681 b679 => ?_)
            obtain ⟨T682, J683, v686, rfl, R687, f688, f689, f690, f691⟩ := b679
            have I684 := I44.call J683 (tm_sub (by decide)) (Or.inl rfl)
            have t692 := J683.up t56
            have t693 := J683.up t_a673
            have := f688.2.1
            have f694 := Im.i f688.w.2
            have f695 := Im.i f688.w2
            replace f691 := Im.i f691
            have z696 := (rv_c I44 J683 (I44.up h_o0) (k := 22) rfl).trans z60
            have z697 := (rv_c I44 J683 (I44.up h_o0) (k := 24) rfl).trans z61
            have z698 := (ra_call I44 J683 (I44.up h_o0) (k := 5) rfl rfl rfl 44).trans z62
            have z699 := (ra_call I44 J683 (I44.up h_o0) (k := 6) rfl rfl rfl 44)
            have z700 := (ra_call I44 J683 (I44.up h_o0) (k := 7) rfl rfl rfl ((880 + ra M0 o0 6 44).toNat))
            have z701 := (ra_call I44 J683 (I44.up h_o0) (k := 10) rfl rfl rfl ((880 + ra M0 o0 6 44).toNat))
            have E702 : rE M0 M680 o0 0 2 := E63.trans f688 (by decide) (yR.2 5 _ _ rfl 44).1 (by decide) (by decide)
            have K703 : rK M0 M680 o0 ((880 + ra M0 o0 6 44).toNat) := K65.same (sA_c I44 J683 (I44.up h_o0) (by decide +kernel))
            have K704 : nN M680 o0 := K66.same (sA_c I44 J683 (I44.up h_o0) (by decide +kernel)) (sF_c I44 J683 (I44.up h_o0) (by decide +kernel))
            have K705 : ∀ i : Nat, i ≠ 44 → ra M680 o0 6 i = ra M0 o0 6 i := (by have e9 := ((sA_c I44 J683 (I44.up h_o0) (by decide +kernel)) : sA [6] _ _ _) 6 rfl; rw [e9]; exact K67)
            rw [show (0 : Int32).toInt = 0 from by decide] at f690
            rw [show (20 : Int32).toInt = 20 from by decide] at f690
            obtain ⟨s706, e707⟩ : ∃ s9 : p_S, p_num pb pn 0 20 s68 = s9 := ⟨_, rfl⟩
            rw [e707] at f690
            have := f690.w
            have : p_nm pb pn s68.2.2 = p_nm pb pn (ps.2.2 + 1) := by rw [← e69]; rfl
            clear z60 z61 z62
            have q708 := J683.keep t56 (by decide) q70
            have t709 := J683.up t71
            have q710 := J683.keep t56 (by decide) q672
            refine tr_iastR (k := 8) I684 R687 (I684.up h_o0) q710 t693 (by decide) (by decide) (fun lo hi h => by cases h; have := R687.1 15 _ _ rfl; have := R687.1 16 _ _ rfl; have := R687.1 19 _ _ rfl; exact ⟨by show ((-1) : Int) ≤ v686.toInt; omega, by show v686.toInt ≤ (720 : Int); omega⟩) (Or.inl (by decide)) d_TrustDeskModel_readRule_250 (vp_in_iff.mpr (by have := R687.1 15 _ _ rfl; have := R687.1 16 _ _ rfl; have := R687.1 19 _ _ rfl; omega)) (fun M711 I712 K713 R714 E715 A716 V717 => ?_)
            have z718 := (V717 15)
            have z719 := (V717 16)
            have z720 := (V717 17)
            have z721 := (V717 19)
            have z722 := (V717 22).trans z696
            have z723 := (V717 24).trans z697
            have z724 := (A716 5 (by decide) rfl 44).trans z698
            have z725 := (A716 6 (by decide) rfl 44).trans z699
            have z726 := (A716 7 (by decide) rfl ((880 + ra M0 o0 6 44).toNat)).trans z700
            have z727 := (A716 10 (by decide) rfl ((880 + ra M0 o0 6 44).toNat)).trans z701
            have E728 : rE M0 M711 o0 0 2 := E702.same (fun k _ _ => V717 k) (fun k h1 h2 => A716 k (by omega) (by rcases (show k = 4 ∨ k = 5 by omega) with rfl | rfl <;> rfl))
            have h729 : (880 + ra M0 o0 6 44).toNat = v46.toNatClampNeg := by have := mz_nat9 (i := v46) (by have := R687.1 15 _ _ rfl; have := R687.1 16 _ _ rfl; have := R687.1 19 _ _ rfl; omega); have := R687.1 15 _ _ rfl; have := R687.1 16 _ _ rfl; have := R687.1 19 _ _ rfl; omega
            have z730 : ra M711 o0 8 ((880 + ra M0 o0 6 44).toNat) = v686.toInt := (E715 _).trans (if_pos h729)
            have K731 : rK M0 M711 o0 ((880 + ra M0 o0 6 44).toNat) := K703.st A716 E715 (by have := mz_nat9 (i := v46) (by have := R687.1 15 _ _ rfl; have := R687.1 16 _ _ rfl; have := R687.1 19 _ _ rfl; omega); have := R687.1 15 _ _ rfl; have := R687.1 16 _ _ rfl; have := R687.1 19 _ _ rfl; omega)
            have K732 : nN M711 o0 := K704.same (sA_a A716 (by decide +kernel)) (sF_a V717)
            have K733 : ∀ i : Nat, i ≠ 44 → ra M711 o0 6 i = ra M0 o0 6 i := (by have e9 := ((sA_a A716 (by decide +kernel)) : sA [6] _ _ _) 6 rfl; rw [e9]; exact K705)
            have Z9734 : pO M711 o0 pb pn pa s706 := f690.same (fun k _ _ => V717 k) (V717 23) (A716 13 (by decide) rfl)
            clear z696 z697 z698 z699 z700 z701
            refine mv_aload_n d_TrustDeskModel_readRule_251 rfl rfl ?_
            refine mv_bipush (v := 59) d_TrustDeskModel_readRule_252 (by decide) ?_
            obtain ⟨_, b741, -⟩ := I712.1 _ _ t692
            have : (59 : Int32).toInt = 59 := by decide
            refine mv_callV (kc' := 0) (ks' := 0) (As := [.int 59]) (st9 := [.int 59, .ref o0]) d_TrustDeskModel_readRule_254 lV_TrustDeskModel_291 b741 rfl (tc_TrustDeskModel_wantSign_x (d := (d + 3)) (x9 := x9) (o0 := o0) (x1 := 59) t692 R714 E728.1 (E728.s yS (by decide)) (by decide) Z9734 I712.start) rfl (Nat.le_of_ble_eq_true rfl) (Nat.le_of_ble_eq_true rfl) (Nat.le_of_ble_eq_true rfl) (hst := rfl) (fun b735r M736 n737 b735 => ?_)
            obtain ⟨T738, J739, rfl, R742, f743, f744⟩ := b735
            have I740 := I712.call J739 (tm_sub (by decide)) (Or.inl rfl)
            have t745 := J739.up t692
            have := f743.2.1
            have f746 := Im.i f743.w.2
            have f747 := Im.i f743.w2
            have z748 := (rv_c I712 J739 (I712.up h_o0) (k := 22) rfl).trans z722
            have z749 := (rv_c I712 J739 (I712.up h_o0) (k := 24) rfl).trans z723
            have z750 := (ra_call I712 J739 (I712.up h_o0) (k := 5) rfl rfl rfl 44).trans z724
            have z751 := (ra_call I712 J739 (I712.up h_o0) (k := 6) rfl rfl rfl 44).trans z725
            have z752 := (ra_call I712 J739 (I712.up h_o0) (k := 7) rfl rfl rfl ((880 + ra M0 o0 6 44).toNat)).trans z726
            have z753 := (ra_call I712 J739 (I712.up h_o0) (k := 10) rfl rfl rfl ((880 + ra M0 o0 6 44).toNat)).trans z727
            have z754 := (ra_call I712 J739 (I712.up h_o0) (k := 8) rfl rfl rfl ((880 + ra M0 o0 6 44).toNat)).trans z730
            have E755 : rE M0 M736 o0 0 3 := E728.trans f743 (by decide) (yR.2 5 _ _ rfl 44).1 (by decide) (by decide)
            have K756 : rK M0 M736 o0 ((880 + ra M0 o0 6 44).toNat) := K731.same (sA_c I712 J739 (I712.up h_o0) (by decide +kernel))
            have K757 : nN M736 o0 := K732.same (sA_c I712 J739 (I712.up h_o0) (by decide +kernel)) (sF_c I712 J739 (I712.up h_o0) (by decide +kernel))
            have K758 : ∀ i : Nat, i ≠ 44 → ra M736 o0 6 i = ra M0 o0 6 i := (by have e9 := ((sA_c I712 J739 (I712.up h_o0) (by decide +kernel)) : sA [6] _ _ _) 6 rfl; rw [e9]; exact K733)
            rw [show (59 : Int32).toInt = 59 from by decide] at f744
            obtain ⟨s759, e760⟩ : ∃ s9 : p_S, p_sg pb pn 59 s706 = s9 := ⟨_, rfl⟩
            rw [e760] at f744
            have := f744.w
            clear z722 z723 z724 z725 z726 z727 z730
            have q761 := J739.keep t692 (by decide) (K713 _ 13 6 _ q708)
            have t762 := J739.up t709
            have q763 := J739.keep t692 (by decide) (K713 _ 13 8 _ q710)
            have t764 := J739.up t693
            refine mv_aload_n d_TrustDeskModel_readRule_257 rfl rfl ?_
            obtain ⟨a766, q765, t_a766⟩ := tm_atR I740 t745 (k := 12) rfl
            refine tr_getK q765 d_TrustDeskModel_readRule_258 f_TrustDeskModel_41_13 ?_
            refine mv_iload_n d_TrustDeskModel_readRule_261 rfl rfl ?_
            refine mv_aload_n d_TrustDeskModel_readRule_262 rfl rfl ?_
            obtain ⟨a768, q767, t_a768⟩ := tm_atR I740 t745 (k := 5) rfl
            refine tr_getK q767 d_TrustDeskModel_readRule_263 f_TrustDeskModel_20_13 ?_
            refine mv_bipush (v := 44) d_TrustDeskModel_readRule_266 (by decide) ?_
            refine tr_ialdR (o := o0) (k := 5) I740 q767 t_a768 (by decide) d_TrustDeskModel_readRule_268 (by unfold vp_in; decide) (fun v769 e770 => ?_)
            have := R742.a (k := 5) rfl (44 : Int32).toNatClampNeg
            have : v769.toInt = ra M736 o0 5 44 := e770
            have : v769.toInt = _ := Eq.trans e770 z750
            refine tr_iastR (k := 12) I740 R742 (I740.up h_o0) q765 t_a766 (by decide) (by decide) (fun lo hi h => by cases h; have := R742.1 15 _ _ rfl; have := R742.1 16 _ _ rfl; have := R742.1 19 _ _ rfl; exact ⟨by show (0 : Int) ≤ v769.toInt; omega, by show v769.toInt ≤ (400 : Int); omega⟩) (Or.inl (by decide)) d_TrustDeskModel_readRule_269 (vp_in_iff.mpr (by have := R742.1 15 _ _ rfl; have := R742.1 16 _ _ rfl; have := R742.1 19 _ _ rfl; omega)) (fun M771 I772 K773 R774 E775 A776 V777 => ?_)
            have z778 := (V777 15)
            have z779 := (V777 16)
            have z780 := (V777 17)
            have z781 := (V777 19)
            have z782 := (V777 22).trans z748
            have z783 := (V777 24).trans z749
            have z784 := (A776 5 (by decide) rfl 44).trans z750
            have z785 := (A776 6 (by decide) rfl 44).trans z751
            have z786 := (A776 7 (by decide) rfl ((880 + ra M0 o0 6 44).toNat)).trans z752
            have z787 := (A776 10 (by decide) rfl ((880 + ra M0 o0 6 44).toNat)).trans z753
            have z788 := (A776 8 (by decide) rfl ((880 + ra M0 o0 6 44).toNat)).trans z754
            have E789 : rE M0 M771 o0 0 3 := E755.same (fun k _ _ => V777 k) (fun k h1 h2 => A776 k (by omega) (by rcases (show k = 4 ∨ k = 5 by omega) with rfl | rfl <;> rfl))
            have h790 : (880 + ra M0 o0 6 44).toNat = v46.toNatClampNeg := by have := mz_nat9 (i := v46) (by have := R742.1 15 _ _ rfl; have := R742.1 16 _ _ rfl; have := R742.1 19 _ _ rfl; omega); have := R742.1 15 _ _ rfl; have := R742.1 16 _ _ rfl; have := R742.1 19 _ _ rfl; omega
            have z791 : ra M771 o0 12 ((880 + ra M0 o0 6 44).toNat) = v769.toInt := (E775 _).trans (if_pos h790)
            have K792 : rK M0 M771 o0 ((880 + ra M0 o0 6 44).toNat) := K756.st A776 E775 (by have := mz_nat9 (i := v46) (by have := R742.1 15 _ _ rfl; have := R742.1 16 _ _ rfl; have := R742.1 19 _ _ rfl; omega); have := R742.1 15 _ _ rfl; have := R742.1 16 _ _ rfl; have := R742.1 19 _ _ rfl; omega)
            have K793 : nN M771 o0 := K757.same (sA_a A776 (by decide +kernel)) (sF_a V777)
            have K794 : ∀ i : Nat, i ≠ 44 → ra M771 o0 6 i = ra M0 o0 6 i := (by have e9 := ((sA_a A776 (by decide +kernel)) : sA [6] _ _ _) 6 rfl; rw [e9]; exact K758)
            have Z9795 : pO M771 o0 pb pn pa s759 := f744.same (fun k _ _ => V777 k) (V777 23) (A776 13 (by decide) rfl)
            clear z748 z749 z750 z751 z752 z753 z754
            exact mv_vret d_TrustDeskModel_readRule_270 rfl ⟨_, I772, rfl, R774, (rW.of E789.1 (E789.s yS (by decide)) (fun w9 => by have u91 : rv M736 o0 19 = 0 := (by omega); have := f746.o u91; have := f747.o u91; have u92 : rv M680 o0 19 = 0 := (by omega); have := f694.o u92; have := f695.o u92; have := f691.o u92; have u93 : rv M40 o0 19 = 0 := (by omega); have := f57.o u93; have := f58.o u93; exact rG.step yG yR E789 w9 K792 (by have := yR.2 6 _ _ rfl 44; omega) (by have := R774.1 15 _ _ rfl; have := R774.1 16 _ _ rfl; have := R774.1 19 _ _ rfl; omega) (by have := R774.1 15 _ _ rfl; have := R774.1 16 _ _ rfl; have := R774.1 19 _ _ rfl; omega) (fun h9 => by exfalso; have := R774.1 15 _ _ rfl; have := R774.1 16 _ _ rfl; have := R774.1 19 _ _ rfl; omega) (fun h9 => (by have := R774.1 15 _ _ rfl; have := R774.1 16 _ _ rfl; have := R774.1 19 _ _ rfl; omega)) (by have := R774.1 15 _ _ rfl; have := R774.1 16 _ _ rfl; have := R774.1 19 _ _ rfl; omega) K793)), (rO.of E789 K792 (by have := yR.2 6 _ _ rfl 44; omega)), ⟨E789.2.1, fun w9 => by skip; have := E789.w2 w9; omega⟩, (fun w9 => by have u91 : rv M736 o0 19 = 0 := (by omega); have := f746.o u91; have := f747.o u91; have u92 : rv M680 o0 19 = 0 := (by omega); have := f694.o u92; have := f695.o u92; have := f691.o u92; have u93 : rv M40 o0 19 = 0 := (by omega); have := f57.o u93; have := f58.o u93; omega), (by first | (have hlo : p_lo (p_wi pb pn ps.2.2) = 0 := (by unfold p_lo; split <;> omega); have hhi : p_hi (p_wi pb pn ps.2.2) = 20 := (by unfold p_hi; (repeat' split) <;> omega); rw [show p_rul pb pn pa pc9 ps = s759 from (by unfold p_rul; unfold p_bar; rw [hlo, hhi]; (try simp only [e69, e707, e760]); ((repeat' (first | (with_reducible rfl) | split)) <;> (first | ((try simp only [e69, e707, e760]); done) | ((try simp only [e69, e707, e760]); first | exact p_sg_Z _ (by omega) | exact (p_sg_Z _ (by omega)).symm | omega) | (exfalso; omega))))]; exact Z9795) | (exfalso; have := R774.1 15 _ _ rfl; have := R774.1 16 _ _ rfl; have := R774.1 19 _ _ rfl; omega)), (fun w9 => by have u91 : rv M736 o0 19 = 0 := (by omega); have := f746.o u91; have := f747.o u91; have u92 : rv M680 o0 19 = 0 := (by omega); have := f694.o u92; have := f695.o u92; have := f691.o u92; have u93 : rv M40 o0 19 = 0 := (by omega); have := f57.o u93; have := f58.o u93; omega), K794, K792, (fun w9 => by have u91 : rv M736 o0 19 = 0 := (by omega); have := f746.o u91; have := f747.o u91; have u92 : rv M680 o0 19 = 0 := (by omega); have := f694.o u92; have := f695.o u92; have := f691.o u92; have u93 : rv M40 o0 19 = 0 := (by omega); have := f57.o u93; have := f58.o u93; unfold rwA; omega)⟩
    · refine mv_aload_n d_TrustDeskModel_readRule_30 rfl rfl ?_
      refine mv_iconst (v := 4) d_TrustDeskModel_readRule_31 (by decide) ?_
      obtain ⟨_, b802, -⟩ := I9.1 _ _ t15
      have : (4 : Int32).toInt = 4 := by decide
      refine mv_callV (kc' := 0) (ks' := 0) (As := [.int 4]) (st9 := [.int 4, .ref o0]) d_TrustDeskModel_readRule_32 lV_TrustDeskModel_240 b802 rfl (tc_TrustDeskModel_fails_x (d := (d + 5)) (x9 := x9) (o0 := o0) (x1 := 4) t15 R12 (by decide) Z928 I9.start) rfl (Nat.le_of_ble_eq_true rfl) (Nat.le_of_ble_eq_true rfl) (Nat.le_of_ble_eq_true rfl) (hst := rfl) (fun b796r M797 n798 b796 => ?_)
      obtain ⟨T799, J800, rfl, R803, f804, f805⟩ := b796
      have I801 := I9.call J800 (tm_sub (by decide)) (Or.inl rfl)
      have t806 := J800.up t15
      have z807 := (rv_c I9 J800 (I9.up h_o0) (k := 15) rfl).trans z16
      have z808 := (rv_c I9 J800 (I9.up h_o0) (k := 16) rfl).trans z17
      have z809 := (rv_c I9 J800 (I9.up h_o0) (k := 17) rfl).trans z18
      have z810 := (rv_c I9 J800 (I9.up h_o0) (k := 22) rfl).trans z20
      have z811 := (rv_c I9 J800 (I9.up h_o0) (k := 24) rfl).trans z21
      have z812 := (ra_call I9 J800 (I9.up h_o0) (k := 5) rfl rfl rfl 44).trans z22
      have z813 := (ra_call I9 J800 (I9.up h_o0) (k := 6) rfl rfl rfl 44).trans z23
      have E814 : rE M0 M797 o0 0 0 := E24.fails (rE_hv I9 J800 (I9.up h_o0) 15 18 (by decide)) (rE_ha I9 J800 (I9.up h_o0) (by decide)) f804 0 0
      have K815 : rK M0 M797 o0 ((880 + ra M0 o0 6 44).toNat) := K25.same (sA_c I9 J800 (I9.up h_o0) (by decide +kernel))
      have K816 : nN M797 o0 := K26.same (sA_c I9 J800 (I9.up h_o0) (by decide +kernel)) (sF_c I9 J800 (I9.up h_o0) (by decide +kernel))
      have K817 : ∀ i : Nat, i ≠ 44 → ra M797 o0 6 i = ra M0 o0 6 i := (by have e9 := ((sA_c I9 J800 (I9.up h_o0) (by decide +kernel)) : sA [6] _ _ _) 6 rfl; rw [e9]; exact K27)
      rw [show (4 : Int32).toInt = 4 from by decide] at f805
      obtain ⟨s818, e819⟩ : ∃ s9 : p_S, p_fl pb pn 4 ps = s9 := ⟨_, rfl⟩
      rw [e819] at f805
      have := f805.w
      clear z16 z17 z18 z20 z21 z22 z23
      have q820 := J800.keep t15 (by decide) q30
      have t821 := J800.up t_a31
      refine mv_aload_n d_TrustDeskModel_readRule_35 rfl rfl ?_
      obtain ⟨_, b822, -⟩ := I801.1 _ _ t806
      refine mv_callV (kc1 := 0) (ks1 := 0) (kc' := 0) (ks' := 0) (As := []) (st9 := [.ref o0]) d_TrustDeskModel_readRule_36 lV_TrustDeskModel_230 b822 rfl (mj_enter (by decide) (Nat.le_of_ble_eq_true rfl) ?_) rfl (Nat.le_of_ble_eq_true rfl) (Nat.le_of_ble_eq_true rfl) (Nat.le_of_ble_eq_true rfl) (hst := rfl) (fun _ _ _ h => h)
      refine mv_aload_n d_TrustDeskModel_isWell_0 rfl rfl ?_
      obtain ⟨v824, q823⟩ := tm_atI I801 t806 (k := 19) rfl
      refine tr_getK q823 d_TrustDeskModel_isWell_1 f_TrustDeskModel_224_13 ?_
      have := R803.f (k := 19) q823 rfl
      have := tm_rv q823
      refine mv_if_neZ (tgt := 11) (a := v824.toInt) d_TrustDeskModel_isWell_4 (by decide) rfl (fun b825 => ?_) (fun b825 => ?_)
      · refine mv_iconst (v := 0) d_TrustDeskModel_isWell_11 (by decide) ?_
        refine mv_iret d_TrustDeskModel_isWell_12 rfl (by decide) ?_
        refine mv_if_ne_f (tgt := 43) d_TrustDeskModel_readRule_39 (by decide) (by decide) ?_
        exact mv_vret d_TrustDeskModel_readRule_42 rfl ⟨_, I801, rfl, R803, (rW.of E814.1 (fun h9 => by exfalso; skip; have := R803.1 15 _ _ rfl; have := R803.1 16 _ _ rfl; have := R803.1 19 _ _ rfl; omega) (fun h9 => by exfalso; skip; have := R803.1 15 _ _ rfl; have := R803.1 16 _ _ rfl; have := R803.1 19 _ _ rfl; omega)), (rO.of E814 K815 (by have := yR.2 6 _ _ rfl 44; omega)), ⟨E814.2.1, fun w9 => by skip; have := E814.w2 w9; omega⟩, (fun w9 => by skip; omega), (by first | (rw [show p_rul pb pn pa pc9 ps = s818 from (by unfold p_rul; unfold p_bar; (try simp only [e819]); ((repeat' (first | (with_reducible rfl) | split)) <;> (first | ((try simp only [e819]); done) | ((try simp only [e819]); first | exact p_sg_Z _ (by omega) | exact (p_sg_Z _ (by omega)).symm | omega) | (exfalso; omega))))]; exact f805) | (exfalso; have := R803.1 15 _ _ rfl; have := R803.1 16 _ _ rfl; have := R803.1 19 _ _ rfl; omega)), (fun w9 => by skip; omega), K817, K815, (fun h9 => by exfalso; skip; have := R803.1 15 _ _ rfl; have := R803.1 16 _ _ rfl; have := R803.1 19 _ _ rfl; omega)⟩
      · exfalso
        have := R803.1 15 _ _ rfl; have := R803.1 16 _ _ rfl; have := R803.1 19 _ _ rfl; omega
  · refine mv_aload_n d_TrustDeskModel_readRule_10 rfl rfl ?_
    refine mv_iconst (v := 1) d_TrustDeskModel_readRule_11 (by decide) ?_
    obtain ⟨_, b832, -⟩ := I9.1 _ _ t15
    have : (1 : Int32).toInt = 1 := by decide
    refine mv_callV (kc' := 0) (ks' := 0) (As := [.int 1]) (st9 := [.int 1, .ref o0]) d_TrustDeskModel_readRule_12 lV_TrustDeskModel_240 b832 rfl (tc_TrustDeskModel_fails_x (d := (d + 5)) (x9 := x9) (o0 := o0) (x1 := 1) t15 R12 (by decide) Z928 I9.start) rfl (Nat.le_of_ble_eq_true rfl) (Nat.le_of_ble_eq_true rfl) (Nat.le_of_ble_eq_true rfl) (hst := rfl) (fun b826r M827 n828 b826 => ?_)
    obtain ⟨T829, J830, rfl, R833, f834, f835⟩ := b826
    have I831 := I9.call J830 (tm_sub (by decide)) (Or.inl rfl)
    have t836 := J830.up t15
    have z837 := (rv_c I9 J830 (I9.up h_o0) (k := 15) rfl).trans z16
    have z838 := (rv_c I9 J830 (I9.up h_o0) (k := 16) rfl).trans z17
    have z839 := (rv_c I9 J830 (I9.up h_o0) (k := 17) rfl).trans z18
    have z840 := (rv_c I9 J830 (I9.up h_o0) (k := 22) rfl).trans z20
    have z841 := (rv_c I9 J830 (I9.up h_o0) (k := 24) rfl).trans z21
    have z842 := (ra_call I9 J830 (I9.up h_o0) (k := 5) rfl rfl rfl 44).trans z22
    have z843 := (ra_call I9 J830 (I9.up h_o0) (k := 6) rfl rfl rfl 44).trans z23
    have E844 : rE M0 M827 o0 0 0 := E24.fails (rE_hv I9 J830 (I9.up h_o0) 15 18 (by decide)) (rE_ha I9 J830 (I9.up h_o0) (by decide)) f834 0 0
    have K845 : rK M0 M827 o0 ((880 + ra M0 o0 6 44).toNat) := K25.same (sA_c I9 J830 (I9.up h_o0) (by decide +kernel))
    have K846 : nN M827 o0 := K26.same (sA_c I9 J830 (I9.up h_o0) (by decide +kernel)) (sF_c I9 J830 (I9.up h_o0) (by decide +kernel))
    have K847 : ∀ i : Nat, i ≠ 44 → ra M827 o0 6 i = ra M0 o0 6 i := (by have e9 := ((sA_c I9 J830 (I9.up h_o0) (by decide +kernel)) : sA [6] _ _ _) 6 rfl; rw [e9]; exact K27)
    rw [show (1 : Int32).toInt = 1 from by decide] at f835
    obtain ⟨s848, e849⟩ : ∃ s9 : p_S, p_fl pb pn 1 ps = s9 := ⟨_, rfl⟩
    rw [e849] at f835
    have := f835.w
    clear z16 z17 z18 z20 z21 z22 z23
    refine mv_goto (tgt := 35) d_TrustDeskModel_readRule_15 (by decide) ?_
    refine mv_aload_n d_TrustDeskModel_readRule_35 rfl rfl ?_
    obtain ⟨_, b850, -⟩ := I831.1 _ _ t836
    refine mv_callV (kc1 := 0) (ks1 := 0) (kc' := 0) (ks' := 0) (As := []) (st9 := [.ref o0]) d_TrustDeskModel_readRule_36 lV_TrustDeskModel_230 b850 rfl (mj_enter (by decide) (Nat.le_of_ble_eq_true rfl) ?_) rfl (Nat.le_of_ble_eq_true rfl) (Nat.le_of_ble_eq_true rfl) (Nat.le_of_ble_eq_true rfl) (hst := rfl) (fun _ _ _ h => h)
    refine mv_aload_n d_TrustDeskModel_isWell_0 rfl rfl ?_
    obtain ⟨v852, q851⟩ := tm_atI I831 t836 (k := 19) rfl
    refine tr_getK q851 d_TrustDeskModel_isWell_1 f_TrustDeskModel_224_13 ?_
    have := R833.f (k := 19) q851 rfl
    have := tm_rv q851
    refine mv_if_neZ (tgt := 11) (a := v852.toInt) d_TrustDeskModel_isWell_4 (by decide) rfl (fun b853 => ?_) (fun b853 => ?_)
    · refine mv_iconst (v := 0) d_TrustDeskModel_isWell_11 (by decide) ?_
      refine mv_iret d_TrustDeskModel_isWell_12 rfl (by decide) ?_
      refine mv_if_ne_f (tgt := 43) d_TrustDeskModel_readRule_39 (by decide) (by decide) ?_
      exact mv_vret d_TrustDeskModel_readRule_42 rfl ⟨_, I831, rfl, R833, (rW.of E844.1 (fun h9 => by exfalso; skip; have := R833.1 15 _ _ rfl; have := R833.1 16 _ _ rfl; have := R833.1 19 _ _ rfl; omega) (fun h9 => by exfalso; skip; have := R833.1 15 _ _ rfl; have := R833.1 16 _ _ rfl; have := R833.1 19 _ _ rfl; omega)), (rO.of E844 K845 (by have := yR.2 6 _ _ rfl 44; omega)), ⟨E844.2.1, fun w9 => by skip; have := E844.w2 w9; omega⟩, (fun w9 => by skip; omega), (by first | (rw [show p_rul pb pn pa pc9 ps = s848 from (by unfold p_rul; unfold p_bar; (try simp only [e849]); ((repeat' (first | (with_reducible rfl) | split)) <;> (first | ((try simp only [e849]); done) | ((try simp only [e849]); first | exact p_sg_Z _ (by omega) | exact (p_sg_Z _ (by omega)).symm | omega) | (exfalso; omega))))]; exact f835) | (exfalso; have := R833.1 15 _ _ rfl; have := R833.1 16 _ _ rfl; have := R833.1 19 _ _ rfl; omega)), (fun w9 => by skip; omega), K847, K845, (fun h9 => by exfalso; skip; have := R833.1 15 _ _ rfl; have := R833.1 16 _ _ rfl; have := R833.1 19 _ _ rfl; omega)⟩
    · exfalso
      have := R833.1 15 _ _ rfl; have := R833.1 16 _ _ rfl; have := R833.1 19 _ _ rfl; omega
