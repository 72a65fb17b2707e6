def w_Reader_term_q0_x : List Nat := [901, 902, 909, 910, 911, 912, 913, 914, 916, 918, 967]
set_option maxHeartbeats 100000000 in theorem tc_Reader_term_q0_x {g : mj_G} {l : Launch} {d : Nat} {T0 : tm_H} {M0 : mj_M} {n0 x9 : Nat} {o0 : Nat} (h_o0 : T0 o0 = some (0, 9, 0)) {p : Int32} (hO : tm_at M0 o0 9 16 (.int p)) (hp : 4 ≤ p.toInt)  (hp2 : p.toInt ≤ 4) {pb : Nat → Int} {pn : Nat} {pa : Int} {ps : p_S} (yC : qC M0 o0 pb pn pa) (yD : qS M0 o0 pb pn ps) (yw : ps.1 = 0) (I0 : tm_I tm_FT (tm_in w_Reader_term_q0_x) x9 T0 M0 n0 T0 M0 n0) : mj_Met g l kY_Reader_term (d + 5) [.ref o0] M0 n0 0 0 (tm_Q tm_FT (tm_in w_Reader_term_q0_x) x9 T0 M0 n0 (fun r _ M => ∃ v : Int32, r = some (.int v) ∧ 0 ≤ v.toInt ∧ v.toInt ≤ 1 ∧ (v.toInt = 1 → tm_at M o0 9 16 (.int p)) ∧ (qS M o0 pb pn (p_ter pb pn pa 0 (p_oc pb pn pa 0) ps)) ∧ (v.toInt = 1 ∧ (p_ter pb pn pa 0 (p_oc pb pn pa 0) ps).1 = 0 ∨ v.toInt = 0 ∧ (p_ter pb pn pa 0 (p_oc pb pn pa 0) ps).1 ≠ 0))) := by
  refine mj_enter (by decide) (Nat.le_of_ble_eq_true rfl) ?_
  have hK : ∀ {T : tm_H} {M : mj_M} {n : Nat}, tm_I tm_FT (tm_in w_Reader_term_q0_x) x9 T0 M0 n0 T M n → qC M o0 pb pn pa := fun I => yC.keep I0.1 I h_o0 (qW_of (by decide +kernel))
  obtain ⟨v1, v2, v3, v4, v5, v6, v7, q8, q9, q10, q11, q12, q13, q14, h15, h16, h17⟩ := yD
  replace h16 := Im.i h16
  replace h17 := Im.i h17
  refine mv_iconst (v := 0) d_Reader_term_0 (by decide) ?_
  refine mv_istore_n (lv' := [(1, .int 0), (0, .ref o0)]) d_Reader_term_1 rfl (by decide) rfl ?_
  refine mv_iconst (v := 0) d_Reader_term_2 (by decide) ?_
  refine mv_istore_n (lv' := [(2, .int 0), (1, .int 0), (0, .ref o0)]) d_Reader_term_3 rfl (by decide) rfl ?_
  have L4_18 : ∀ (k : Nat) (i2_18 : Int32) (i1_18 : Int32) (T_18 : tm_H) (M_18 : mj_M) (n_18 : Nat), tm_I tm_FT (tm_in w_Reader_term_q0_x) x9 T0 M0 n0 T_18 M_18 n_18 → T_18 o0 = some (0, 9, 0) → 0 ≤ i2_18.toInt → tm_at M_18 o0 9 16 (.int p) → (∃ s1 : p_S, qS M_18 o0 pb pn s1 ∧ s1.1 = 0 ∧ i2_18.toInt ≤ (s1.2.2 : Int) ∧ p_lp pn (p_no1 pb pn) s1 = p_lp pn (p_no1 pb pn) ps) → 2147483647 - i2_18.toInt < (k : Int) → mj_V g l kY_Reader_term (d + 5) 4 [(2, .int i2_18), (1, .int i1_18), (0, .ref o0)] [] M_18 n_18 0 0 (tm_Q tm_FT (tm_in w_Reader_term_q0_x) x9 T0 M0 n0 (fun r _ M => ∃ v : Int32, r = some (.int v) ∧ 0 ≤ v.toInt ∧ v.toInt ≤ 1 ∧ (v.toInt = 1 → tm_at M o0 9 16 (.int p)) ∧ (qS M o0 pb pn (p_ter pb pn pa 0 (p_oc pb pn pa 0) ps)) ∧ (v.toInt = 1 ∧ (p_ter pb pn pa 0 (p_oc pb pn pa 0) ps).1 = 0 ∨ v.toInt = 0 ∧ (p_ter pb pn pa 0 (p_oc pb pn pa 0) ps).1 ≠ 0))) := by
    intro k18
    induction k18 with
    | zero =>
      intro i2_18 i1_18 T_18 M_18 n_18 I_18 h_q0_18 iv0_18 kp0_18 kKT9_18 hk18
      have := mz_hi i2_18
      omega
    | succ k18 ih18 =>
      intro i2_18 i1_18 T_18 M_18 n_18 I_18 h_q0_18 iv0_18 kp0_18 kKT9_18 hk18
      obtain ⟨s19, f20, h21, h22, e23⟩ := kKT9_18
      obtain ⟨v24, v25, v26, v27, v28, v29, v30, q31, q32, q33, q34, q35, q36, q37, h38, h39, h40⟩ := f20
      replace h39 := Im.i h39
      replace h40 := Im.i h40
      refine mv_iload_n d_Reader_term_4 rfl rfl ?_
      refine mv_sipush (v := 400) d_Reader_term_5 (by decide) ?_
      have := mz_hi i2_18
      refine mv_icmp_geZ (tgt := 40) (a := i2_18.toInt) (b := 400) d_Reader_term_8 (by decide) rfl (by decide) (fun b41 => ?_) (fun b41 => ?_)
      · refine mv_aload_n d_Reader_term_40 rfl rfl ?_
        refine mv_bipush (v := 91) d_Reader_term_41 (by decide) ?_
        obtain ⟨_, b42, -⟩ := I_18.1 _ _ h_q0_18
        refine mv_callV (kc1 := 0) (ks1 := 0) (kc' := 0) (ks' := 0) (As := [.int 91]) (st9 := [.int 91, .ref o0]) d_Reader_term_43 lV_Reader_209 b42 rfl (mj_enter (by decide) (Nat.le_of_ble_eq_true rfl) ?_) rfl (Nat.le_of_ble_eq_true rfl) (Nat.le_of_ble_eq_true rfl) (Nat.le_of_ble_eq_true rfl) (hst := rfl) (fun _ _ _ h => h)
        refine mv_aload_n d_Reader_isSign_0 rfl rfl ?_
        refine tr_getK (k := 10) q34 d_Reader_isSign_1 f_Reader_41_9 ?_
        refine mv_iconst (v := 3) d_Reader_isSign_4 (by decide) ?_
        have := mz_hi v27
        refine mv_icmp_neZ (tgt := 20) (a := v27.toInt) (b := 3) d_Reader_isSign_5 (by decide) rfl (by decide) (fun b43 => ?_) (fun b43 => ?_)
        · refine mv_iconst (v := 0) d_Reader_isSign_20 (by decide) ?_
          refine mv_iret d_Reader_isSign_21 rfl (by decide) ?_
          refine mv_if_eq_t (tgt := 86) d_Reader_term_46 (by decide) (by decide) ?_
          refine mv_aload_n d_Reader_term_86 rfl rfl ?_
          obtain ⟨_, b50, -⟩ := I_18.1 _ _ h_q0_18
          refine mv_callV (kc' := 0) (ks' := 0) (As := []) (st9 := [.ref o0]) d_Reader_term_87 lV_Reader_186 b50 rfl (tc_Reader_sum_q0_x (d := d) (x9 := x9) (o0 := o0) h_q0_18 (p := p) kp0_18 (by omega) (by first | omega | decide) (hK I_18) ⟨_, _, _, _, _, _, _, q31, q32, q33, q34, q35, q36, q37, h38, Im.o h39, Im.o h40⟩ (by omega) I_18.start) rfl (Nat.le_of_ble_eq_true rfl) (Nat.le_of_ble_eq_true rfl) (Nat.le_of_ble_eq_true rfl) (hst := rfl) (fun b44r M45 n46 b44 => ?_)
          obtain ⟨T47, J48, v51, rfl, b52, b53, o54, f55, f56⟩ := b44
          have I49 := I_18.call J48 (tm_sub (by decide)) (Or.inl rfl)
          have t57 := J48.up h_q0_18
          obtain ⟨s58, e59⟩ : ∃ s9 : p_S, p_sum pb pn pa (p_op pb pn pa 0) s19 = s9 := ⟨_, rfl⟩
          rw [e59] at f55 f56
          obtain ⟨v60, v61, v62, v63, v64, v65, v66, q67, q68, q69, q70, q71, q72, q73, h74, h75, h76⟩ := f55
          replace h75 := Im.i h75
          replace h76 := Im.i h76
          have := mz_hi v51
          refine mv_if_neZ (tgt := 95) (a := v51.toInt) d_Reader_term_90 (by decide) rfl (fun b77 => ?_) (fun b77 => ?_)
          · have q78 := o54 (by omega)
            refine mv_aload_n d_Reader_term_95 rfl rfl ?_
            obtain ⟨_, b79, -⟩ := I49.1 _ _ t57
            refine mv_callV (kc1 := 0) (ks1 := 0) (kc' := 0) (ks' := 0) (As := []) (st9 := [.ref o0]) d_Reader_term_96 lV_Reader_215 b79 rfl (mj_enter (by decide) (Nat.le_of_ble_eq_true rfl) ?_) rfl (Nat.le_of_ble_eq_true rfl) (Nat.le_of_ble_eq_true rfl) (Nat.le_of_ble_eq_true rfl) (hst := rfl) (fun _ _ _ h => h)
            refine mv_aload_n d_Reader_comparisonHere_0 rfl rfl ?_
            refine mv_bipush (v := 60) d_Reader_comparisonHere_1 (by decide) ?_
            obtain ⟨_, b80, -⟩ := I49.1 _ _ t57
            refine mv_callV (kc1 := 0) (ks1 := 0) (kc' := 0) (ks' := 0) (As := [.int 60]) (st9 := [.int 60, .ref o0]) d_Reader_comparisonHere_3 lV_Reader_209 b80 rfl (mj_enter (by decide) (Nat.le_of_ble_eq_true rfl) ?_) rfl (Nat.le_of_ble_eq_true rfl) (Nat.le_of_ble_eq_true rfl) (Nat.le_of_ble_eq_true rfl) (hst := rfl) (fun _ _ _ h => h)
            refine mv_aload_n d_Reader_isSign_0 rfl rfl ?_
            refine tr_getK (k := 10) q70 d_Reader_isSign_1 f_Reader_41_9 ?_
            refine mv_iconst (v := 3) d_Reader_isSign_4 (by decide) ?_
            have := mz_hi v63
            refine mv_icmp_neZ (tgt := 20) (a := v63.toInt) (b := 3) d_Reader_isSign_5 (by decide) rfl (by decide) (fun b81 => ?_) (fun b81 => ?_)
            · refine mv_iconst (v := 0) d_Reader_isSign_20 (by decide) ?_
              refine mv_iret d_Reader_isSign_21 rfl (by decide) ?_
              refine mv_if_eq_t (tgt := 11) d_Reader_comparisonHere_6 (by decide) (by decide) ?_
              refine mv_aload_n d_Reader_comparisonHere_11 rfl rfl ?_
              refine mv_bipush (v := 62) d_Reader_comparisonHere_12 (by decide) ?_
              obtain ⟨_, b82, -⟩ := I49.1 _ _ t57
              refine mv_callV (kc1 := 0) (ks1 := 0) (kc' := 0) (ks' := 0) (As := [.int 62]) (st9 := [.int 62, .ref o0]) d_Reader_comparisonHere_14 lV_Reader_209 b82 rfl (mj_enter (by decide) (Nat.le_of_ble_eq_true rfl) ?_) rfl (Nat.le_of_ble_eq_true rfl) (Nat.le_of_ble_eq_true rfl) (Nat.le_of_ble_eq_true rfl) (hst := rfl) (fun _ _ _ h => h)
              refine mv_aload_n d_Reader_isSign_0 rfl rfl ?_
              refine tr_getK (k := 10) q70 d_Reader_isSign_1 f_Reader_41_9 ?_
              refine mv_iconst (v := 3) d_Reader_isSign_4 (by decide) ?_
              have := mz_hi v63
              refine mv_icmp_neZ (tgt := 20) (a := v63.toInt) (b := 3) d_Reader_isSign_5 (by decide) rfl (by decide) (fun b83 => ?_) (fun b83 => absurd b83 (by omega))
              refine mv_iconst (v := 0) d_Reader_isSign_20 (by decide) ?_
              refine mv_iret d_Reader_isSign_21 rfl (by decide) ?_
              refine mv_if_eq_t (tgt := 23) d_Reader_comparisonHere_17 (by decide) (by decide) ?_
              refine mv_aload_n d_Reader_comparisonHere_23 rfl rfl ?_
              refine mv_bipush (v := 61) d_Reader_comparisonHere_24 (by decide) ?_
              obtain ⟨_, b84, -⟩ := I49.1 _ _ t57
              refine mv_callV (kc1 := 0) (ks1 := 0) (kc' := 0) (ks' := 0) (As := [.int 61]) (st9 := [.int 61, .ref o0]) d_Reader_comparisonHere_26 lV_Reader_209 b84 rfl (mj_enter (by decide) (Nat.le_of_ble_eq_true rfl) ?_) rfl (Nat.le_of_ble_eq_true rfl) (Nat.le_of_ble_eq_true rfl) (Nat.le_of_ble_eq_true rfl) (hst := rfl) (fun _ _ _ h => h)
              refine mv_aload_n d_Reader_isSign_0 rfl rfl ?_
              refine tr_getK (k := 10) q70 d_Reader_isSign_1 f_Reader_41_9 ?_
              refine mv_iconst (v := 3) d_Reader_isSign_4 (by decide) ?_
              have := mz_hi v63
              refine mv_icmp_neZ (tgt := 20) (a := v63.toInt) (b := 3) d_Reader_isSign_5 (by decide) rfl (by decide) (fun b85 => ?_) (fun b85 => absurd b85 (by omega))
              refine mv_iconst (v := 0) d_Reader_isSign_20 (by decide) ?_
              refine mv_iret d_Reader_isSign_21 rfl (by decide) ?_
              refine mv_if_eq_t (tgt := 37) d_Reader_comparisonHere_29 (by decide) (by decide) ?_
              refine mv_iconst (v := (-1)) d_Reader_comparisonHere_37 (by decide) ?_
              refine mv_iret d_Reader_comparisonHere_38 rfl (by first | rfl | decide) ?_
              refine mv_istore_n (lv' := [(2, .int (-1)), (1, .int i1_18), (0, .ref o0)]) d_Reader_term_99 rfl (by decide) rfl ?_
              refine mv_iload_n d_Reader_term_100 rfl rfl ?_
              refine mv_iconst (v := (-1)) d_Reader_term_101 (by decide) ?_
              refine mv_icmp_ne_f (tgt := 111) d_Reader_term_102 (by decide) (by decide) ?_
              refine mv_aload_n d_Reader_term_105 rfl rfl ?_
              refine mv_iconst (v := 1) d_Reader_term_106 (by decide) ?_
              obtain ⟨_, b86, -⟩ := I49.1 _ _ t57
              refine mv_callV (kc1 := 0) (ks1 := 0) (kc' := 0) (ks' := 0) (As := [.int 1]) (st9 := [.int 1, .ref o0]) d_Reader_term_107 lV_Reader_56 b86 rfl (mj_enter (by decide) (Nat.le_of_ble_eq_true rfl) ?_) rfl (Nat.le_of_ble_eq_true rfl) (Nat.le_of_ble_eq_true rfl) (Nat.le_of_ble_eq_true rfl) (hst := rfl) (fun _ _ _ h => h)
              refine mv_aload_n d_Reader_refuse_0 rfl rfl ?_
              refine mv_iload_n d_Reader_refuse_1 rfl rfl ?_
              refine tr_putK tm_okF I49 t57 (k := 1) rfl ⟨_, rfl⟩ (Or.inl (by decide)) d_Reader_refuse_2 p_Reader_70_9 rfl rfl (fun M87 I88 q89 K90 => ?_)
              refine mv_aload_n d_Reader_refuse_5 rfl rfl ?_
              refine mv_aload_n d_Reader_refuse_6 rfl rfl ?_
              refine tr_getK (k := 11) (K90 _ 9 11 _ rfl q71) d_Reader_refuse_7 f_Reader_175_9 ?_
              refine tr_putK tm_okF I88 t57 (k := 2) rfl ⟨_, rfl⟩ (Or.inl (by decide)) d_Reader_refuse_10 p_Reader_11_9 rfl rfl (fun M91 I92 q93 K94 => ?_)
              refine mv_iconst (v := 0) d_Reader_refuse_13 (by decide) ?_
              obtain ⟨s95, e96⟩ : ∃ s9 : p_S, p_fl pb pn 1 s58 = s9 := ⟨_, rfl⟩
              have h97 := q_fl e96 (by omega) (by decide)
              have h98 : (1 : Int32).toInt = s95.1 := (by have e9 : (1 : Int32).toInt = 1 := (by decide); omega)
              have h99 : Im (s95.1 ≠ 0 → v64.toInt = (s95.2.1 : Int)) := Im.i (fun _ => by have := (Im.o h76) (by omega); omega)
              have h100 : Im (s95.1 = 0 → v62.toInt = (s95.2.2 : Int) ∧ v63.toInt = p_ki pb pn s95.2.2 ∧ v64.toInt = (p_st pb pn s95.2.2 : Int) ∧ v65.toInt = (p_sp pb pn s95.2.2 : Int) ∧ v66.toInt = p_va pb pn s95.2.2 ∧ v64.toInt = -1) := Im.i (fun z9 => absurd z9 h97.2.2)
              refine mv_iret d_Reader_refuse_14 rfl (by decide) ?_
              exact mv_iret d_Reader_term_110 rfl (by decide) ⟨_, I92, _, rfl, by decide, by decide, fun h => absurd h (by decide), (by have := (Im.o h40) (by omega); have := yC.d s19.2.2; have := yC.kn s19.2.2; have := (Im.o h76) (by omega); have := yC.d s58.2.2; have := yC.kn s58.2.2; have hb : s95.1 ≠ 0 := (by omega); have z1 : ∀ c, p_sg pb pn c s95 = s95 := (fun c => p_sg_Z s95 hb); have z2 : ∀ c, p_wd pb pn c s95 = s95 := (fun c => p_wd_Z s95 hb); have z3 : ∀ op, p_sum pb pn pa op s95 = s95 := (fun op => p_sum_Z s95 hb); have z4 : ∀ r oc, p_con pb pn pa r oc s95 = s95 := (fun r oc => p_con_Z s95 hb); have z5 : p_prt pb pn s95 = s95 := p_prt_Z s95 hb; have eT : p_ter pb pn pa 0 (p_oc pb pn pa 0) ps = s95 := (by have hop : p_oc pb pn pa 0 s19 = p_fl pb pn 4 s19 := rfl; have hX := e23.symm.trans (p_lp_stop (show (p_no1 pb pn) s19 = s19 from if_neg (fun h9 => by omega))); unfold p_ter; rw [hX]; unfold p_te1; unfold p_cmp; (try simp only [hop]); (try simp only [e59, e96, z1, z2, z3, z4, z5]); ((repeat' (first | (with_reducible rfl) | split)) <;> (first | ((try simp only [e59, e96, z1, z2, z3, z4, z5]); done) | (exfalso; omega)))); rw [eT]; exact ⟨⟨_, _, _, _, _, _, _, (K94 _ 9 1 _ rfl q89), q93, (K94 _ 9 9 _ rfl (K90 _ 9 9 _ rfl q69)), (K94 _ 9 10 _ rfl (K90 _ 9 10 _ rfl q70)), (K94 _ 9 11 _ rfl (K90 _ 9 11 _ rfl q71)), (K94 _ 9 12 _ rfl (K90 _ 9 12 _ rfl q72)), (K94 _ 9 13 _ rfl (K90 _ 9 13 _ rfl q73)), h98, Im.o h99, Im.o h100⟩, (Or.inr ⟨by first | decide | omega, by omega⟩)⟩)⟩
            · refine mv_aload_n d_Reader_isSign_8 rfl rfl ?_
              refine tr_getK (k := 13) q73 d_Reader_isSign_9 f_Reader_241_9 ?_
              refine mv_iload_n d_Reader_isSign_12 rfl rfl ?_
              have := mz_hi v66
              refine mv_icmp_neZ (tgt := 20) (a := v66.toInt) (b := 60) d_Reader_isSign_13 (by decide) rfl (by decide) (fun b101 => ?_) (fun b101 => ?_)
              · refine mv_iconst (v := 0) d_Reader_isSign_20 (by decide) ?_
                refine mv_iret d_Reader_isSign_21 rfl (by decide) ?_
                refine mv_if_eq_t (tgt := 11) d_Reader_comparisonHere_6 (by decide) (by decide) ?_
                refine mv_aload_n d_Reader_comparisonHere_11 rfl rfl ?_
                refine mv_bipush (v := 62) d_Reader_comparisonHere_12 (by decide) ?_
                obtain ⟨_, b102, -⟩ := I49.1 _ _ t57
                refine mv_callV (kc1 := 0) (ks1 := 0) (kc' := 0) (ks' := 0) (As := [.int 62]) (st9 := [.int 62, .ref o0]) d_Reader_comparisonHere_14 lV_Reader_209 b102 rfl (mj_enter (by decide) (Nat.le_of_ble_eq_true rfl) ?_) rfl (Nat.le_of_ble_eq_true rfl) (Nat.le_of_ble_eq_true rfl) (Nat.le_of_ble_eq_true rfl) (hst := rfl) (fun _ _ _ h => h)
                refine mv_aload_n d_Reader_isSign_0 rfl rfl ?_
                refine tr_getK (k := 10) q70 d_Reader_isSign_1 f_Reader_41_9 ?_
                refine mv_iconst (v := 3) d_Reader_isSign_4 (by decide) ?_
                have := mz_hi v63
                refine mv_icmp_neZ (tgt := 20) (a := v63.toInt) (b := 3) d_Reader_isSign_5 (by decide) rfl (by decide) (fun b103 => absurd b103 (by omega)) (fun b103 => ?_)
                refine mv_aload_n d_Reader_isSign_8 rfl rfl ?_
                refine tr_getK (k := 13) q73 d_Reader_isSign_9 f_Reader_241_9 ?_
                refine mv_iload_n d_Reader_isSign_12 rfl rfl ?_
                have := mz_hi v66
                refine mv_icmp_neZ (tgt := 20) (a := v66.toInt) (b := 62) d_Reader_isSign_13 (by decide) rfl (by decide) (fun b104 => ?_) (fun b104 => ?_)
                · refine mv_iconst (v := 0) d_Reader_isSign_20 (by decide) ?_
                  refine mv_iret d_Reader_isSign_21 rfl (by decide) ?_
                  refine mv_if_eq_t (tgt := 23) d_Reader_comparisonHere_17 (by decide) (by decide) ?_
                  refine mv_aload_n d_Reader_comparisonHere_23 rfl rfl ?_
                  refine mv_bipush (v := 61) d_Reader_comparisonHere_24 (by decide) ?_
                  obtain ⟨_, b105, -⟩ := I49.1 _ _ t57
                  refine mv_callV (kc1 := 0) (ks1 := 0) (kc' := 0) (ks' := 0) (As := [.int 61]) (st9 := [.int 61, .ref o0]) d_Reader_comparisonHere_26 lV_Reader_209 b105 rfl (mj_enter (by decide) (Nat.le_of_ble_eq_true rfl) ?_) rfl (Nat.le_of_ble_eq_true rfl) (Nat.le_of_ble_eq_true rfl) (Nat.le_of_ble_eq_true rfl) (hst := rfl) (fun _ _ _ h => h)
                  refine mv_aload_n d_Reader_isSign_0 rfl rfl ?_
                  refine tr_getK (k := 10) q70 d_Reader_isSign_1 f_Reader_41_9 ?_
                  refine mv_iconst (v := 3) d_Reader_isSign_4 (by decide) ?_
                  have := mz_hi v63
                  refine mv_icmp_neZ (tgt := 20) (a := v63.toInt) (b := 3) d_Reader_isSign_5 (by decide) rfl (by decide) (fun b106 => absurd b106 (by omega)) (fun b106 => ?_)
                  refine mv_aload_n d_Reader_isSign_8 rfl rfl ?_
                  refine tr_getK (k := 13) q73 d_Reader_isSign_9 f_Reader_241_9 ?_
                  refine mv_iload_n d_Reader_isSign_12 rfl rfl ?_
                  have := mz_hi v66
                  refine mv_icmp_neZ (tgt := 20) (a := v66.toInt) (b := 61) d_Reader_isSign_13 (by decide) rfl (by decide) (fun b107 => ?_) (fun b107 => ?_)
                  · refine mv_iconst (v := 0) d_Reader_isSign_20 (by decide) ?_
                    refine mv_iret d_Reader_isSign_21 rfl (by decide) ?_
                    refine mv_if_eq_t (tgt := 37) d_Reader_comparisonHere_29 (by decide) (by decide) ?_
                    refine mv_iconst (v := (-1)) d_Reader_comparisonHere_37 (by decide) ?_
                    refine mv_iret d_Reader_comparisonHere_38 rfl (by first | rfl | decide) ?_
                    refine mv_istore_n (lv' := [(2, .int (-1)), (1, .int i1_18), (0, .ref o0)]) d_Reader_term_99 rfl (by decide) rfl ?_
                    refine mv_iload_n d_Reader_term_100 rfl rfl ?_
                    refine mv_iconst (v := (-1)) d_Reader_term_101 (by decide) ?_
                    refine mv_icmp_ne_f (tgt := 111) d_Reader_term_102 (by decide) (by decide) ?_
                    refine mv_aload_n d_Reader_term_105 rfl rfl ?_
                    refine mv_iconst (v := 1) d_Reader_term_106 (by decide) ?_
                    obtain ⟨_, b108, -⟩ := I49.1 _ _ t57
                    refine mv_callV (kc1 := 0) (ks1 := 0) (kc' := 0) (ks' := 0) (As := [.int 1]) (st9 := [.int 1, .ref o0]) d_Reader_term_107 lV_Reader_56 b108 rfl (mj_enter (by decide) (Nat.le_of_ble_eq_true rfl) ?_) rfl (Nat.le_of_ble_eq_true rfl) (Nat.le_of_ble_eq_true rfl) (Nat.le_of_ble_eq_true rfl) (hst := rfl) (fun _ _ _ h => h)
                    refine mv_aload_n d_Reader_refuse_0 rfl rfl ?_
                    refine mv_iload_n d_Reader_refuse_1 rfl rfl ?_
                    refine tr_putK tm_okF I49 t57 (k := 1) rfl ⟨_, rfl⟩ (Or.inl (by decide)) d_Reader_refuse_2 p_Reader_70_9 rfl rfl (fun M109 I110 q111 K112 => ?_)
                    refine mv_aload_n d_Reader_refuse_5 rfl rfl ?_
                    refine mv_aload_n d_Reader_refuse_6 rfl rfl ?_
                    refine tr_getK (k := 11) (K112 _ 9 11 _ rfl q71) d_Reader_refuse_7 f_Reader_175_9 ?_
                    refine tr_putK tm_okF I110 t57 (k := 2) rfl ⟨_, rfl⟩ (Or.inl (by decide)) d_Reader_refuse_10 p_Reader_11_9 rfl rfl (fun M113 I114 q115 K116 => ?_)
                    refine mv_iconst (v := 0) d_Reader_refuse_13 (by decide) ?_
                    obtain ⟨s117, e118⟩ : ∃ s9 : p_S, p_fl pb pn 1 s58 = s9 := ⟨_, rfl⟩
                    have h119 := q_fl e118 (by omega) (by decide)
                    have h120 : (1 : Int32).toInt = s117.1 := (by have e9 : (1 : Int32).toInt = 1 := (by decide); omega)
                    have h121 : Im (s117.1 ≠ 0 → v64.toInt = (s117.2.1 : Int)) := Im.i (fun _ => by have := (Im.o h76) (by omega); omega)
                    have h122 : Im (s117.1 = 0 → v62.toInt = (s117.2.2 : Int) ∧ v63.toInt = p_ki pb pn s117.2.2 ∧ v64.toInt = (p_st pb pn s117.2.2 : Int) ∧ v65.toInt = (p_sp pb pn s117.2.2 : Int) ∧ v66.toInt = p_va pb pn s117.2.2 ∧ v64.toInt = -1) := Im.i (fun z9 => absurd z9 h119.2.2)
                    refine mv_iret d_Reader_refuse_14 rfl (by decide) ?_
                    exact mv_iret d_Reader_term_110 rfl (by decide) ⟨_, I114, _, rfl, by decide, by decide, fun h => absurd h (by decide), (by have := (Im.o h40) (by omega); have := yC.d s19.2.2; have := yC.kn s19.2.2; have := (Im.o h76) (by omega); have := yC.d s58.2.2; have := yC.kn s58.2.2; have hb : s117.1 ≠ 0 := (by omega); have z1 : ∀ c, p_sg pb pn c s117 = s117 := (fun c => p_sg_Z s117 hb); have z2 : ∀ c, p_wd pb pn c s117 = s117 := (fun c => p_wd_Z s117 hb); have z3 : ∀ op, p_sum pb pn pa op s117 = s117 := (fun op => p_sum_Z s117 hb); have z4 : ∀ r oc, p_con pb pn pa r oc s117 = s117 := (fun r oc => p_con_Z s117 hb); have z5 : p_prt pb pn s117 = s117 := p_prt_Z s117 hb; have eT : p_ter pb pn pa 0 (p_oc pb pn pa 0) ps = s117 := (by have hop : p_oc pb pn pa 0 s19 = p_fl pb pn 4 s19 := rfl; have hX := e23.symm.trans (p_lp_stop (show (p_no1 pb pn) s19 = s19 from if_neg (fun h9 => by omega))); unfold p_ter; rw [hX]; unfold p_te1; unfold p_cmp; (try simp only [hop]); (try simp only [e59, e118, z1, z2, z3, z4, z5]); ((repeat' (first | (with_reducible rfl) | split)) <;> (first | ((try simp only [e59, e118, z1, z2, z3, z4, z5]); done) | (exfalso; omega)))); rw [eT]; exact ⟨⟨_, _, _, _, _, _, _, (K116 _ 9 1 _ rfl q111), q115, (K116 _ 9 9 _ rfl (K112 _ 9 9 _ rfl q69)), (K116 _ 9 10 _ rfl (K112 _ 9 10 _ rfl q70)), (K116 _ 9 11 _ rfl (K112 _ 9 11 _ rfl q71)), (K116 _ 9 12 _ rfl (K112 _ 9 12 _ rfl q72)), (K116 _ 9 13 _ rfl (K112 _ 9 13 _ rfl q73)), h120, Im.o h121, Im.o h122⟩, (Or.inr ⟨by first | decide | omega, by omega⟩)⟩)⟩
                  · refine mv_iconst (v := 1) d_Reader_isSign_16 (by decide) ?_
                    refine mv_goto (tgt := 21) d_Reader_isSign_17 (by decide) ?_
                    refine mv_iret d_Reader_isSign_21 rfl (by decide) ?_
                    refine mv_if_eq_f (tgt := 37) d_Reader_comparisonHere_29 (by decide) (by decide) ?_
                    refine mv_bipush (v := 7) d_Reader_comparisonHere_32 (by decide) ?_
                    refine mv_goto (tgt := 38) d_Reader_comparisonHere_34 (by decide) ?_
                    refine mv_iret d_Reader_comparisonHere_38 rfl (by first | rfl | decide) ?_
                    refine mv_istore_n (lv' := [(2, .int 7), (1, .int i1_18), (0, .ref o0)]) d_Reader_term_99 rfl (by decide) rfl ?_
                    refine mv_iload_n d_Reader_term_100 rfl rfl ?_
                    refine mv_iconst (v := (-1)) d_Reader_term_101 (by decide) ?_
                    refine mv_icmp_ne_t (tgt := 111) d_Reader_term_102 (by decide) (by decide) ?_
                    refine mv_aload_n d_Reader_term_111 rfl rfl ?_
                    obtain ⟨_, b129, -⟩ := I49.1 _ _ t57
                    refine mv_callV (kc' := 0) (ks' := 0) (As := []) (st9 := [.ref o0]) d_Reader_term_112 lV_Reader_82 b129 rfl (tc_Reader_advance_x (d := (d + 4)) (x9 := x9) (o0 := o0) t57 (hK I49) (qS.a (show qS M45 o0 pb pn s58 from ⟨_, _, _, _, _, _, _, q67, q68, q69, q70, q71, q72, q73, h74, Im.o h75, Im.o h76⟩)) (by have := (Im.o h40) (by omega); have := yC.d s19.2.2; have := yC.kn s19.2.2; have := (Im.o h76) (by omega); have := yC.d s58.2.2; have := yC.kn s58.2.2; show s58.2.2 + 1 ≤ 401; omega) I49.start) rfl (Nat.le_of_ble_eq_true rfl) (Nat.le_of_ble_eq_true rfl) (Nat.le_of_ble_eq_true rfl) (hst := rfl) (fun b123r M124 n125 b123 => ?_)
                    obtain ⟨T126, J127, rfl, f130⟩ := b123
                    have I128 := I49.call J127 (tm_sub (by decide)) (Or.inl rfl)
                    have t131 := J127.up t57
                    have q132 := J127.keep (I49.up h_o0) (by decide) q67
                    have q133 := J127.keep (I49.up h_o0) (by decide) q68
                    have q134 := J127.keep t57 (by decide) q78
                    obtain ⟨s135, e136⟩ : ∃ s9 : p_S, p_nx s58 = s9 := ⟨_, rfl⟩
                    rw [e136] at f130
                    have : s135.1 = 0 := by rw [← e136]; show s58.1 = 0; omega
                    obtain ⟨v137, v138, v139, v140, v141, v142, v143, q144, q145, q146, q147, q148, q149, q150, h151, h152, h153⟩ := f130
                    replace h152 := Im.i h152
                    replace h153 := Im.i h153
                    refine mv_aload_n d_Reader_term_115 rfl rfl ?_
                    obtain ⟨_, b160, -⟩ := I128.1 _ _ t131
                    refine mv_callV (kc' := 0) (ks' := 0) (As := []) (st9 := [.ref o0]) d_Reader_term_116 lV_Reader_186 b160 rfl (tc_Reader_sum_q0_x (d := d) (x9 := x9) (o0 := o0) t131 (p := p) q134 (by omega) (by first | omega | decide) (hK I128) ⟨_, _, _, _, _, _, _, q144, q145, q146, q147, q148, q149, q150, h151, Im.o h152, Im.o h153⟩ (by omega) I128.start) rfl (Nat.le_of_ble_eq_true rfl) (Nat.le_of_ble_eq_true rfl) (Nat.le_of_ble_eq_true rfl) (hst := rfl) (fun b154r M155 n156 b154 => ?_)
                    obtain ⟨T157, J158, v161, rfl, b162, b163, o164, f165, f166⟩ := b154
                    have I159 := I128.call J158 (tm_sub (by decide)) (Or.inl rfl)
                    have t167 := J158.up t131
                    obtain ⟨s168, e169⟩ : ∃ s9 : p_S, p_sum pb pn pa (p_op pb pn pa 0) s135 = s9 := ⟨_, rfl⟩
                    rw [e169] at f165 f166
                    obtain ⟨v170, v171, v172, v173, v174, v175, v176, q177, q178, q179, q180, q181, q182, q183, h184, h185, h186⟩ := f165
                    replace h185 := Im.i h185
                    replace h186 := Im.i h186
                    have := mz_hi v161
                    refine mv_if_neZ (tgt := 124) (a := v161.toInt) d_Reader_term_119 (by decide) rfl (fun b187 => ?_) (fun b187 => ?_)
                    · have q188 := o164 (by omega)
                      refine mv_aload_n d_Reader_term_124 rfl rfl ?_
                      refine mv_iload_n d_Reader_term_125 rfl rfl ?_
                      refine mv_iconst (v := 0) d_Reader_term_126 (by decide) ?_
                      obtain ⟨_, b195, -⟩ := I159.1 _ _ t167
                      refine mv_callV (kc' := 0) (ks' := 0) (As := [.int 7, .int 0]) (st9 := [.int 0, .int 7, .ref o0]) d_Reader_term_127 lV_Reader_203 b195 rfl (tc_Reader_emit (d := (d + 4)) (x9 := x9) (o0 := o0) (x1 := 7) (x2 := 0) t167 I159.start) rfl (Nat.le_of_ble_eq_true rfl) (Nat.le_of_ble_eq_true rfl) (Nat.le_of_ble_eq_true rfl) (hst := rfl) (fun b189r M190 n191 b189 => ?_)
                      obtain ⟨T192, J193, rfl⟩ := b189
                      have I194 := I159.call J193 (tm_sub (by decide)) (Or.inl rfl)
                      have t196 := J193.up t167
                      have q197 := J193.keep (I159.up h_o0) (by decide) q177
                      have q198 := J193.keep (I159.up h_o0) (by decide) q178
                      have q199 := J193.keep (I159.up h_o0) (by decide) q179
                      have q200 := J193.keep (I159.up h_o0) (by decide) q180
                      have q201 := J193.keep (I159.up h_o0) (by decide) q181
                      have q202 := J193.keep (I159.up h_o0) (by decide) q182
                      have q203 := J193.keep (I159.up h_o0) (by decide) q183
                      have q204 := J193.keep t167 (by decide) q188
                      refine mv_iload_n d_Reader_term_130 rfl rfl ?_
                      have := mz_hi i1_18
                      refine mv_if_eqZ (tgt := 141) (a := i1_18.toInt) d_Reader_term_131 (by decide) rfl (fun b205 => ?_) (fun b205 => ?_)
                      · refine mv_iconst (v := 1) d_Reader_term_141 (by decide) ?_
                        exact mv_iret d_Reader_term_142 rfl (by decide) ⟨_, I194, _, rfl, by decide, by decide, fun _ => q204, (by have := (Im.o h40) (by omega); have := yC.d s19.2.2; have := yC.kn s19.2.2; have := (Im.o h76) (by omega); have := yC.d s58.2.2; have := yC.kn s58.2.2; have eT : p_ter pb pn pa 0 (p_oc pb pn pa 0) ps = s168 := (by have hop : p_oc pb pn pa 0 s19 = p_fl pb pn 4 s19 := rfl; have hX := e23.symm.trans (p_lp_stop (show (p_no1 pb pn) s19 = s19 from if_neg (fun h9 => by omega))); unfold p_ter; rw [hX]; unfold p_te1; unfold p_cmp; (try simp only [hop]); (try simp only [e59, e136, e169]); ((repeat' (first | (with_reducible rfl) | split)) <;> (first | ((try simp only [e59, e136, e169]); done) | (exfalso; omega)))); rw [eT]; exact ⟨⟨_, _, _, _, _, _, _, q197, q198, q199, q200, q201, q202, q203, h184, Im.o h185, Im.o h186⟩, (Or.inl ⟨by first | decide | omega, by omega⟩)⟩)⟩
                      · refine mv_aload_n d_Reader_term_134 rfl rfl ?_
                        refine mv_bipush (v := 8) d_Reader_term_135 (by decide) ?_
                        refine mv_iconst (v := 0) d_Reader_term_137 (by decide) ?_
                        obtain ⟨_, b212, -⟩ := I194.1 _ _ t196
                        refine mv_callV (kc' := 0) (ks' := 0) (As := [.int 8, .int 0]) (st9 := [.int 0, .int 8, .ref o0]) d_Reader_term_138 lV_Reader_203 b212 rfl (tc_Reader_emit (d := (d + 4)) (x9 := x9) (o0 := o0) (x1 := 8) (x2 := 0) t196 I194.start) rfl (Nat.le_of_ble_eq_true rfl) (Nat.le_of_ble_eq_true rfl) (Nat.le_of_ble_eq_true rfl) (hst := rfl) (fun b206r M207 n208 b206 => ?_)
                        obtain ⟨T209, J210, rfl⟩ := b206
                        have I211 := I194.call J210 (tm_sub (by decide)) (Or.inl rfl)
                        have t213 := J210.up t196
                        have q214 := J210.keep t196 (by decide) q197
                        have q215 := J210.keep t196 (by decide) q198
                        have q216 := J210.keep t196 (by decide) q199
                        have q217 := J210.keep t196 (by decide) q200
                        have q218 := J210.keep t196 (by decide) q201
                        have q219 := J210.keep t196 (by decide) q202
                        have q220 := J210.keep t196 (by decide) q203
                        have q221 := J210.keep t196 (by decide) q204
                        refine mv_iconst (v := 1) d_Reader_term_141 (by decide) ?_
                        exact mv_iret d_Reader_term_142 rfl (by decide) ⟨_, I211, _, rfl, by decide, by decide, fun _ => q221, (by have := (Im.o h40) (by omega); have := yC.d s19.2.2; have := yC.kn s19.2.2; have := (Im.o h76) (by omega); have := yC.d s58.2.2; have := yC.kn s58.2.2; have eT : p_ter pb pn pa 0 (p_oc pb pn pa 0) ps = s168 := (by have hop : p_oc pb pn pa 0 s19 = p_fl pb pn 4 s19 := rfl; have hX := e23.symm.trans (p_lp_stop (show (p_no1 pb pn) s19 = s19 from if_neg (fun h9 => by omega))); unfold p_ter; rw [hX]; unfold p_te1; unfold p_cmp; (try simp only [hop]); (try simp only [e59, e136, e169]); ((repeat' (first | (with_reducible rfl) | split)) <;> (first | ((try simp only [e59, e136, e169]); done) | (exfalso; omega)))); rw [eT]; exact ⟨⟨_, _, _, _, _, _, _, q214, q215, q216, q217, q218, q219, q220, h184, Im.o h185, Im.o h186⟩, (Or.inl ⟨by first | decide | omega, by omega⟩)⟩)⟩
                    · refine mv_iconst (v := 0) d_Reader_term_122 (by decide) ?_
                      exact mv_iret d_Reader_term_123 rfl (by decide) ⟨_, I159, _, rfl, by decide, by decide, fun h => absurd h (by decide), (by have := (Im.o h40) (by omega); have := yC.d s19.2.2; have := yC.kn s19.2.2; have := (Im.o h76) (by omega); have := yC.d s58.2.2; have := yC.kn s58.2.2; have hb : s168.1 ≠ 0 := (by omega); have z1 : ∀ c, p_sg pb pn c s168 = s168 := (fun c => p_sg_Z s168 hb); have z2 : ∀ c, p_wd pb pn c s168 = s168 := (fun c => p_wd_Z s168 hb); have z3 : ∀ op, p_sum pb pn pa op s168 = s168 := (fun op => p_sum_Z s168 hb); have z4 : ∀ r oc, p_con pb pn pa r oc s168 = s168 := (fun r oc => p_con_Z s168 hb); have z5 : p_prt pb pn s168 = s168 := p_prt_Z s168 hb; have eT : p_ter pb pn pa 0 (p_oc pb pn pa 0) ps = s168 := (by have hop : p_oc pb pn pa 0 s19 = p_fl pb pn 4 s19 := rfl; have hX := e23.symm.trans (p_lp_stop (show (p_no1 pb pn) s19 = s19 from if_neg (fun h9 => by omega))); unfold p_ter; rw [hX]; unfold p_te1; unfold p_cmp; (try simp only [hop]); (try simp only [e59, e136, e169, z1, z2, z3, z4, z5]); ((repeat' (first | (with_reducible rfl) | split)) <;> (first | ((try simp only [e59, e136, e169, z1, z2, z3, z4, z5]); done) | (exfalso; omega)))); rw [eT]; exact ⟨⟨_, _, _, _, _, _, _, q177, q178, q179, q180, q181, q182, q183, h184, Im.o h185, Im.o h186⟩, (Or.inr ⟨by first | decide | omega, by omega⟩)⟩)⟩
                · refine mv_iconst (v := 1) d_Reader_isSign_16 (by decide) ?_
                  refine mv_goto (tgt := 21) d_Reader_isSign_17 (by decide) ?_
                  refine mv_iret d_Reader_isSign_21 rfl (by decide) ?_
                  refine mv_if_eq_f (tgt := 23) d_Reader_comparisonHere_17 (by decide) (by decide) ?_
                  refine mv_bipush (v := 6) d_Reader_comparisonHere_20 (by decide) ?_
                  refine mv_iret d_Reader_comparisonHere_22 rfl (by first | rfl | decide) ?_
                  refine mv_istore_n (lv' := [(2, .int 6), (1, .int i1_18), (0, .ref o0)]) d_Reader_term_99 rfl (by decide) rfl ?_
                  refine mv_iload_n d_Reader_term_100 rfl rfl ?_
                  refine mv_iconst (v := (-1)) d_Reader_term_101 (by decide) ?_
                  refine mv_icmp_ne_t (tgt := 111) d_Reader_term_102 (by decide) (by decide) ?_
                  refine mv_aload_n d_Reader_term_111 rfl rfl ?_
                  obtain ⟨_, b228, -⟩ := I49.1 _ _ t57
                  refine mv_callV (kc' := 0) (ks' := 0) (As := []) (st9 := [.ref o0]) d_Reader_term_112 lV_Reader_82 b228 rfl (tc_Reader_advance_x (d := (d + 4)) (x9 := x9) (o0 := o0) t57 (hK I49) (qS.a (show qS M45 o0 pb pn s58 from ⟨_, _, _, _, _, _, _, q67, q68, q69, q70, q71, q72, q73, h74, Im.o h75, Im.o h76⟩)) (by have := (Im.o h40) (by omega); have := yC.d s19.2.2; have := yC.kn s19.2.2; have := (Im.o h76) (by omega); have := yC.d s58.2.2; have := yC.kn s58.2.2; show s58.2.2 + 1 ≤ 401; omega) I49.start) rfl (Nat.le_of_ble_eq_true rfl) (Nat.le_of_ble_eq_true rfl) (Nat.le_of_ble_eq_true rfl) (hst := rfl) (fun b222r M223 n224 b222 => ?_)
                  obtain ⟨T225, J226, rfl, f229⟩ := b222
                  have I227 := I49.call J226 (tm_sub (by decide)) (Or.inl rfl)
                  have t230 := J226.up t57
                  have q231 := J226.keep (I49.up h_o0) (by decide) q67
                  have q232 := J226.keep (I49.up h_o0) (by decide) q68
                  have q233 := J226.keep t57 (by decide) q78
                  obtain ⟨s234, e235⟩ : ∃ s9 : p_S, p_nx s58 = s9 := ⟨_, rfl⟩
                  rw [e235] at f229
                  have : s234.1 = 0 := by rw [← e235]; show s58.1 = 0; omega
                  obtain ⟨v236, v237, v238, v239, v240, v241, v242, q243, q244, q245, q246, q247, q248, q249, h250, h251, h252⟩ := f229
                  replace h251 := Im.i h251
                  replace h252 := Im.i h252
                  refine mv_aload_n d_Reader_term_115 rfl rfl ?_
                  obtain ⟨_, b259, -⟩ := I227.1 _ _ t230
                  refine mv_callV (kc' := 0) (ks' := 0) (As := []) (st9 := [.ref o0]) d_Reader_term_116 lV_Reader_186 b259 rfl (tc_Reader_sum_q0_x (d := d) (x9 := x9) (o0 := o0) t230 (p := p) q233 (by omega) (by first | omega | decide) (hK I227) ⟨_, _, _, _, _, _, _, q243, q244, q245, q246, q247, q248, q249, h250, Im.o h251, Im.o h252⟩ (by omega) I227.start) rfl (Nat.le_of_ble_eq_true rfl) (Nat.le_of_ble_eq_true rfl) (Nat.le_of_ble_eq_true rfl) (hst := rfl) (fun b253r M254 n255 b253 => ?_)
                  obtain ⟨T256, J257, v260, rfl, b261, b262, o263, f264, f265⟩ := b253
                  have I258 := I227.call J257 (tm_sub (by decide)) (Or.inl rfl)
                  have t266 := J257.up t230
                  obtain ⟨s267, e268⟩ : ∃ s9 : p_S, p_sum pb pn pa (p_op pb pn pa 0) s234 = s9 := ⟨_, rfl⟩
                  rw [e268] at f264 f265
                  obtain ⟨v269, v270, v271, v272, v273, v274, v275, q276, q277, q278, q279, q280, q281, q282, h283, h284, h285⟩ := f264
                  replace h284 := Im.i h284
                  replace h285 := Im.i h285
                  have := mz_hi v260
                  refine mv_if_neZ (tgt := 124) (a := v260.toInt) d_Reader_term_119 (by decide) rfl (fun b286 => ?_) (fun b286 => ?_)
                  · have q287 := o263 (by omega)
                    refine mv_aload_n d_Reader_term_124 rfl rfl ?_
                    refine mv_iload_n d_Reader_term_125 rfl rfl ?_
                    refine mv_iconst (v := 0) d_Reader_term_126 (by decide) ?_
                    obtain ⟨_, b294, -⟩ := I258.1 _ _ t266
                    refine mv_callV (kc' := 0) (ks' := 0) (As := [.int 6, .int 0]) (st9 := [.int 0, .int 6, .ref o0]) d_Reader_term_127 lV_Reader_203 b294 rfl (tc_Reader_emit (d := (d + 4)) (x9 := x9) (o0 := o0) (x1 := 6) (x2 := 0) t266 I258.start) rfl (Nat.le_of_ble_eq_true rfl) (Nat.le_of_ble_eq_true rfl) (Nat.le_of_ble_eq_true rfl) (hst := rfl) (fun b288r M289 n290 b288 => ?_)
                    obtain ⟨T291, J292, rfl⟩ := b288
                    have I293 := I258.call J292 (tm_sub (by decide)) (Or.inl rfl)
                    have t295 := J292.up t266
                    have q296 := J292.keep (I258.up h_o0) (by decide) q276
                    have q297 := J292.keep (I258.up h_o0) (by decide) q277
                    have q298 := J292.keep (I258.up h_o0) (by decide) q278
                    have q299 := J292.keep (I258.up h_o0) (by decide) q279
                    have q300 := J292.keep (I258.up h_o0) (by decide) q280
                    have q301 := J292.keep (I258.up h_o0) (by decide) q281
                    have q302 := J292.keep (I258.up h_o0) (by decide) q282
                    have q303 := J292.keep t266 (by decide) q287
                    refine mv_iload_n d_Reader_term_130 rfl rfl ?_
                    have := mz_hi i1_18
                    refine mv_if_eqZ (tgt := 141) (a := i1_18.toInt) d_Reader_term_131 (by decide) rfl (fun b304 => ?_) (fun b304 => ?_)
                    · refine mv_iconst (v := 1) d_Reader_term_141 (by decide) ?_
                      exact mv_iret d_Reader_term_142 rfl (by decide) ⟨_, I293, _, rfl, by decide, by decide, fun _ => q303, (by have := (Im.o h40) (by omega); have := yC.d s19.2.2; have := yC.kn s19.2.2; have := (Im.o h76) (by omega); have := yC.d s58.2.2; have := yC.kn s58.2.2; have eT : p_ter pb pn pa 0 (p_oc pb pn pa 0) ps = s267 := (by have hop : p_oc pb pn pa 0 s19 = p_fl pb pn 4 s19 := rfl; have hX := e23.symm.trans (p_lp_stop (show (p_no1 pb pn) s19 = s19 from if_neg (fun h9 => by omega))); unfold p_ter; rw [hX]; unfold p_te1; unfold p_cmp; (try simp only [hop]); (try simp only [e59, e235, e268]); ((repeat' (first | (with_reducible rfl) | split)) <;> (first | ((try simp only [e59, e235, e268]); done) | (exfalso; omega)))); rw [eT]; exact ⟨⟨_, _, _, _, _, _, _, q296, q297, q298, q299, q300, q301, q302, h283, Im.o h284, Im.o h285⟩, (Or.inl ⟨by first | decide | omega, by omega⟩)⟩)⟩
                    · refine mv_aload_n d_Reader_term_134 rfl rfl ?_
                      refine mv_bipush (v := 8) d_Reader_term_135 (by decide) ?_
                      refine mv_iconst (v := 0) d_Reader_term_137 (by decide) ?_
                      obtain ⟨_, b311, -⟩ := I293.1 _ _ t295
                      refine mv_callV (kc' := 0) (ks' := 0) (As := [.int 8, .int 0]) (st9 := [.int 0, .int 8, .ref o0]) d_Reader_term_138 lV_Reader_203 b311 rfl (tc_Reader_emit (d := (d + 4)) (x9 := x9) (o0 := o0) (x1 := 8) (x2 := 0) t295 I293.start) rfl (Nat.le_of_ble_eq_true rfl) (Nat.le_of_ble_eq_true rfl) (Nat.le_of_ble_eq_true rfl) (hst := rfl) (fun b305r M306 n307 b305 => ?_)
                      obtain ⟨T308, J309, rfl⟩ := b305
                      have I310 := I293.call J309 (tm_sub (by decide)) (Or.inl rfl)
                      have t312 := J309.up t295
                      have q313 := J309.keep t295 (by decide) q296
                      have q314 := J309.keep t295 (by decide) q297
                      have q315 := J309.keep t295 (by decide) q298
                      have q316 := J309.keep t295 (by decide) q299
                      have q317 := J309.keep t295 (by decide) q300
                      have q318 := J309.keep t295 (by decide) q301
                      have q319 := J309.keep t295 (by decide) q302
                      have q320 := J309.keep t295 (by decide) q303
                      refine mv_iconst (v := 1) d_Reader_term_141 (by decide) ?_
                      exact mv_iret d_Reader_term_142 rfl (by decide) ⟨_, I310, _, rfl, by decide, by decide, fun _ => q320, (by have := (Im.o h40) (by omega); have := yC.d s19.2.2; have := yC.kn s19.2.2; have := (Im.o h76) (by omega); have := yC.d s58.2.2; have := yC.kn s58.2.2; have eT : p_ter pb pn pa 0 (p_oc pb pn pa 0) ps = s267 := (by have hop : p_oc pb pn pa 0 s19 = p_fl pb pn 4 s19 := rfl; have hX := e23.symm.trans (p_lp_stop (show (p_no1 pb pn) s19 = s19 from if_neg (fun h9 => by omega))); unfold p_ter; rw [hX]; unfold p_te1; unfold p_cmp; (try simp only [hop]); (try simp only [e59, e235, e268]); ((repeat' (first | (with_reducible rfl) | split)) <;> (first | ((try simp only [e59, e235, e268]); done) | (exfalso; omega)))); rw [eT]; exact ⟨⟨_, _, _, _, _, _, _, q313, q314, q315, q316, q317, q318, q319, h283, Im.o h284, Im.o h285⟩, (Or.inl ⟨by first | decide | omega, by omega⟩)⟩)⟩
                  · refine mv_iconst (v := 0) d_Reader_term_122 (by decide) ?_
                    exact mv_iret d_Reader_term_123 rfl (by decide) ⟨_, I258, _, rfl, by decide, by decide, fun h => absurd h (by decide), (by have := (Im.o h40) (by omega); have := yC.d s19.2.2; have := yC.kn s19.2.2; have := (Im.o h76) (by omega); have := yC.d s58.2.2; have := yC.kn s58.2.2; have hb : s267.1 ≠ 0 := (by omega); have z1 : ∀ c, p_sg pb pn c s267 = s267 := (fun c => p_sg_Z s267 hb); have z2 : ∀ c, p_wd pb pn c s267 = s267 := (fun c => p_wd_Z s267 hb); have z3 : ∀ op, p_sum pb pn pa op s267 = s267 := (fun op => p_sum_Z s267 hb); have z4 : ∀ r oc, p_con pb pn pa r oc s267 = s267 := (fun r oc => p_con_Z s267 hb); have z5 : p_prt pb pn s267 = s267 := p_prt_Z s267 hb; have eT : p_ter pb pn pa 0 (p_oc pb pn pa 0) ps = s267 := (by have hop : p_oc pb pn pa 0 s19 = p_fl pb pn 4 s19 := rfl; have hX := e23.symm.trans (p_lp_stop (show (p_no1 pb pn) s19 = s19 from if_neg (fun h9 => by omega))); unfold p_ter; rw [hX]; unfold p_te1; unfold p_cmp; (try simp only [hop]); (try simp only [e59, e235, e268, z1, z2, z3, z4, z5]); ((repeat' (first | (with_reducible rfl) | split)) <;> (first | ((try simp only [e59, e235, e268, z1, z2, z3, z4, z5]); done) | (exfalso; omega)))); rw [eT]; exact ⟨⟨_, _, _, _, _, _, _, q276, q277, q278, q279, q280, q281, q282, h283, Im.o h284, Im.o h285⟩, (Or.inr ⟨by first | decide | omega, by omega⟩)⟩)⟩
              · refine mv_iconst (v := 1) d_Reader_isSign_16 (by decide) ?_
                refine mv_goto (tgt := 21) d_Reader_isSign_17 (by decide) ?_
                refine mv_iret d_Reader_isSign_21 rfl (by decide) ?_
                refine mv_if_eq_f (tgt := 11) d_Reader_comparisonHere_6 (by decide) (by decide) ?_
                refine mv_iconst (v := 5) d_Reader_comparisonHere_9 (by decide) ?_
                refine mv_iret d_Reader_comparisonHere_10 rfl (by first | rfl | decide) ?_
                refine mv_istore_n (lv' := [(2, .int 5), (1, .int i1_18), (0, .ref o0)]) d_Reader_term_99 rfl (by decide) rfl ?_
                refine mv_iload_n d_Reader_term_100 rfl rfl ?_
                refine mv_iconst (v := (-1)) d_Reader_term_101 (by decide) ?_
                refine mv_icmp_ne_t (tgt := 111) d_Reader_term_102 (by decide) (by decide) ?_
                refine mv_aload_n d_Reader_term_111 rfl rfl ?_
                obtain ⟨_, b327, -⟩ := I49.1 _ _ t57
                refine mv_callV (kc' := 0) (ks' := 0) (As := []) (st9 := [.ref o0]) d_Reader_term_112 lV_Reader_82 b327 rfl (tc_Reader_advance_x (d := (d + 4)) (x9 := x9) (o0 := o0) t57 (hK I49) (qS.a (show qS M45 o0 pb pn s58 from ⟨_, _, _, _, _, _, _, q67, q68, q69, q70, q71, q72, q73, h74, Im.o h75, Im.o h76⟩)) (by have := (Im.o h40) (by omega); have := yC.d s19.2.2; have := yC.kn s19.2.2; have := (Im.o h76) (by omega); have := yC.d s58.2.2; have := yC.kn s58.2.2; show s58.2.2 + 1 ≤ 401; omega) I49.start) rfl (Nat.le_of_ble_eq_true rfl) (Nat.le_of_ble_eq_true rfl) (Nat.le_of_ble_eq_true rfl) (hst := rfl) (fun b321r M322 n323 b321 => ?_)
                obtain ⟨T324, J325, rfl, f328⟩ := b321
                have I326 := I49.call J325 (tm_sub (by decide)) (Or.inl rfl)
                have t329 := J325.up t57
                have q330 := J325.keep (I49.up h_o0) (by decide) q67
                have q331 := J325.keep (I49.up h_o0) (by decide) q68
                have q332 := J325.keep t57 (by decide) q78
                obtain ⟨s333, e334⟩ : ∃ s9 : p_S, p_nx s58 = s9 := ⟨_, rfl⟩
                rw [e334] at f328
                have : s333.1 = 0 := by rw [← e334]; show s58.1 = 0; omega
                obtain ⟨v335, v336, v337, v338, v339, v340, v341, q342, q343, q344, q345, q346, q347, q348, h349, h350, h351⟩ := f328
                replace h350 := Im.i h350
                replace h351 := Im.i h351
                refine mv_aload_n d_Reader_term_115 rfl rfl ?_
                obtain ⟨_, b358, -⟩ := I326.1 _ _ t329
                refine mv_callV (kc' := 0) (ks' := 0) (As := []) (st9 := [.ref o0]) d_Reader_term_116 lV_Reader_186 b358 rfl (tc_Reader_sum_q0_x (d := d) (x9 := x9) (o0 := o0) t329 (p := p) q332 (by omega) (by first | omega | decide) (hK I326) ⟨_, _, _, _, _, _, _, q342, q343, q344, q345, q346, q347, q348, h349, Im.o h350, Im.o h351⟩ (by omega) I326.start) rfl (Nat.le_of_ble_eq_true rfl) (Nat.le_of_ble_eq_true rfl) (Nat.le_of_ble_eq_true rfl) (hst := rfl) (fun b352r M353 n354 b352 => ?_)
                obtain ⟨T355, J356, v359, rfl, b360, b361, o362, f363, f364⟩ := b352
                have I357 := I326.call J356 (tm_sub (by decide)) (Or.inl rfl)
                have t365 := J356.up t329
                obtain ⟨s366, e367⟩ : ∃ s9 : p_S, p_sum pb pn pa (p_op pb pn pa 0) s333 = s9 := ⟨_, rfl⟩
                rw [e367] at f363 f364
                obtain ⟨v368, v369, v370, v371, v372, v373, v374, q375, q376, q377, q378, q379, q380, q381, h382, h383, h384⟩ := f363
                replace h383 := Im.i h383
                replace h384 := Im.i h384
                have := mz_hi v359
                refine mv_if_neZ (tgt := 124) (a := v359.toInt) d_Reader_term_119 (by decide) rfl (fun b385 => ?_) (fun b385 => ?_)
                · have q386 := o362 (by omega)
                  refine mv_aload_n d_Reader_term_124 rfl rfl ?_
                  refine mv_iload_n d_Reader_term_125 rfl rfl ?_
                  refine mv_iconst (v := 0) d_Reader_term_126 (by decide) ?_
                  obtain ⟨_, b393, -⟩ := I357.1 _ _ t365
                  refine mv_callV (kc' := 0) (ks' := 0) (As := [.int 5, .int 0]) (st9 := [.int 0, .int 5, .ref o0]) d_Reader_term_127 lV_Reader_203 b393 rfl (tc_Reader_emit (d := (d + 4)) (x9 := x9) (o0 := o0) (x1 := 5) (x2 := 0) t365 I357.start) rfl (Nat.le_of_ble_eq_true rfl) (Nat.le_of_ble_eq_true rfl) (Nat.le_of_ble_eq_true rfl) (hst := rfl) (fun b387r M388 n389 b387 => ?_)
                  obtain ⟨T390, J391, rfl⟩ := b387
                  have I392 := I357.call J391 (tm_sub (by decide)) (Or.inl rfl)
                  have t394 := J391.up t365
                  have q395 := J391.keep (I357.up h_o0) (by decide) q375
                  have q396 := J391.keep (I357.up h_o0) (by decide) q376
                  have q397 := J391.keep (I357.up h_o0) (by decide) q377
                  have q398 := J391.keep (I357.up h_o0) (by decide) q378
                  have q399 := J391.keep (I357.up h_o0) (by decide) q379
                  have q400 := J391.keep (I357.up h_o0) (by decide) q380
                  have q401 := J391.keep (I357.up h_o0) (by decide) q381
                  have q402 := J391.keep t365 (by decide) q386
                  refine mv_iload_n d_Reader_term_130 rfl rfl ?_
                  have := mz_hi i1_18
                  refine mv_if_eqZ (tgt := 141) (a := i1_18.toInt) d_Reader_term_131 (by decide) rfl (fun b403 => ?_) (fun b403 => ?_)
                  · refine mv_iconst (v := 1) d_Reader_term_141 (by decide) ?_
                    exact mv_iret d_Reader_term_142 rfl (by decide) ⟨_, I392, _, rfl, by decide, by decide, fun _ => q402, (by have := (Im.o h40) (by omega); have := yC.d s19.2.2; have := yC.kn s19.2.2; have := (Im.o h76) (by omega); have := yC.d s58.2.2; have := yC.kn s58.2.2; have eT : p_ter pb pn pa 0 (p_oc pb pn pa 0) ps = s366 := (by have hop : p_oc pb pn pa 0 s19 = p_fl pb pn 4 s19 := rfl; have hX := e23.symm.trans (p_lp_stop (show (p_no1 pb pn) s19 = s19 from if_neg (fun h9 => by omega))); unfold p_ter; rw [hX]; unfold p_te1; unfold p_cmp; (try simp only [hop]); (try simp only [e59, e334, e367]); ((repeat' (first | (with_reducible rfl) | split)) <;> (first | ((try simp only [e59, e334, e367]); done) | (exfalso; omega)))); rw [eT]; exact ⟨⟨_, _, _, _, _, _, _, q395, q396, q397, q398, q399, q400, q401, h382, Im.o h383, Im.o h384⟩, (Or.inl ⟨by first | decide | omega, by omega⟩)⟩)⟩
                  · refine mv_aload_n d_Reader_term_134 rfl rfl ?_
                    refine mv_bipush (v := 8) d_Reader_term_135 (by decide) ?_
                    refine mv_iconst (v := 0) d_Reader_term_137 (by decide) ?_
                    obtain ⟨_, b410, -⟩ := I392.1 _ _ t394
                    refine mv_callV (kc' := 0) (ks' := 0) (As := [.int 8, .int 0]) (st9 := [.int 0, .int 8, .ref o0]) d_Reader_term_138 lV_Reader_203 b410 rfl (tc_Reader_emit (d := (d + 4)) (x9 := x9) (o0 := o0) (x1 := 8) (x2 := 0) t394 I392.start) rfl (Nat.le_of_ble_eq_true rfl) (Nat.le_of_ble_eq_true rfl) (Nat.le_of_ble_eq_true rfl) (hst := rfl) (fun b404r M405 n406 b404 => ?_)
                    obtain ⟨T407, J408, rfl⟩ := b404
                    have I409 := I392.call J408 (tm_sub (by decide)) (Or.inl rfl)
                    have t411 := J408.up t394
                    have q412 := J408.keep t394 (by decide) q395
                    have q413 := J408.keep t394 (by decide) q396
                    have q414 := J408.keep t394 (by decide) q397
                    have q415 := J408.keep t394 (by decide) q398
                    have q416 := J408.keep t394 (by decide) q399
                    have q417 := J408.keep t394 (by decide) q400
                    have q418 := J408.keep t394 (by decide) q401
                    have q419 := J408.keep t394 (by decide) q402
                    refine mv_iconst (v := 1) d_Reader_term_141 (by decide) ?_
                    exact mv_iret d_Reader_term_142 rfl (by decide) ⟨_, I409, _, rfl, by decide, by decide, fun _ => q419, (by have := (Im.o h40) (by omega); have := yC.d s19.2.2; have := yC.kn s19.2.2; have := (Im.o h76) (by omega); have := yC.d s58.2.2; have := yC.kn s58.2.2; have eT : p_ter pb pn pa 0 (p_oc pb pn pa 0) ps = s366 := (by have hop : p_oc pb pn pa 0 s19 = p_fl pb pn 4 s19 := rfl; have hX := e23.symm.trans (p_lp_stop (show (p_no1 pb pn) s19 = s19 from if_neg (fun h9 => by omega))); unfold p_ter; rw [hX]; unfold p_te1; unfold p_cmp; (try simp only [hop]); (try simp only [e59, e334, e367]); ((repeat' (first | (with_reducible rfl) | split)) <;> (first | ((try simp only [e59, e334, e367]); done) | (exfalso; omega)))); rw [eT]; exact ⟨⟨_, _, _, _, _, _, _, q412, q413, q414, q415, q416, q417, q418, h382, Im.o h383, Im.o h384⟩, (Or.inl ⟨by first | decide | omega, by omega⟩)⟩)⟩
                · refine mv_iconst (v := 0) d_Reader_term_122 (by decide) ?_
                  exact mv_iret d_Reader_term_123 rfl (by decide) ⟨_, I357, _, rfl, by decide, by decide, fun h => absurd h (by decide), (by have := (Im.o h40) (by omega); have := yC.d s19.2.2; have := yC.kn s19.2.2; have := (Im.o h76) (by omega); have := yC.d s58.2.2; have := yC.kn s58.2.2; have hb : s366.1 ≠ 0 := (by omega); have z1 : ∀ c, p_sg pb pn c s366 = s366 := (fun c => p_sg_Z s366 hb); have z2 : ∀ c, p_wd pb pn c s366 = s366 := (fun c => p_wd_Z s366 hb); have z3 : ∀ op, p_sum pb pn pa op s366 = s366 := (fun op => p_sum_Z s366 hb); have z4 : ∀ r oc, p_con pb pn pa r oc s366 = s366 := (fun r oc => p_con_Z s366 hb); have z5 : p_prt pb pn s366 = s366 := p_prt_Z s366 hb; have eT : p_ter pb pn pa 0 (p_oc pb pn pa 0) ps = s366 := (by have hop : p_oc pb pn pa 0 s19 = p_fl pb pn 4 s19 := rfl; have hX := e23.symm.trans (p_lp_stop (show (p_no1 pb pn) s19 = s19 from if_neg (fun h9 => by omega))); unfold p_ter; rw [hX]; unfold p_te1; unfold p_cmp; (try simp only [hop]); (try simp only [e59, e334, e367, z1, z2, z3, z4, z5]); ((repeat' (first | (with_reducible rfl) | split)) <;> (first | ((try simp only [e59, e334, e367, z1, z2, z3, z4, z5]); done) | (exfalso; omega)))); rw [eT]; exact ⟨⟨_, _, _, _, _, _, _, q375, q376, q377, q378, q379, q380, q381, h382, Im.o h383, Im.o h384⟩, (Or.inr ⟨by first | decide | omega, by omega⟩)⟩)⟩
          · refine mv_iconst (v := 0) d_Reader_term_93 (by decide) ?_
            exact mv_iret d_Reader_term_94 rfl (by decide) ⟨_, I49, _, rfl, by decide, by decide, fun h => absurd h (by decide), (by have := (Im.o h40) (by omega); have := yC.d s19.2.2; have := yC.kn s19.2.2; have hb : s58.1 ≠ 0 := (by omega); have z1 : ∀ c, p_sg pb pn c s58 = s58 := (fun c => p_sg_Z s58 hb); have z2 : ∀ c, p_wd pb pn c s58 = s58 := (fun c => p_wd_Z s58 hb); have z3 : ∀ op, p_sum pb pn pa op s58 = s58 := (fun op => p_sum_Z s58 hb); have z4 : ∀ r oc, p_con pb pn pa r oc s58 = s58 := (fun r oc => p_con_Z s58 hb); have z5 : p_prt pb pn s58 = s58 := p_prt_Z s58 hb; have eT : p_ter pb pn pa 0 (p_oc pb pn pa 0) ps = s58 := (by have hop : p_oc pb pn pa 0 s19 = p_fl pb pn 4 s19 := rfl; have hX := e23.symm.trans (p_lp_stop (show (p_no1 pb pn) s19 = s19 from if_neg (fun h9 => by omega))); unfold p_ter; rw [hX]; unfold p_te1; unfold p_cmp; (try simp only [hop]); (try simp only [e59, z1, z2, z3, z4, z5]); ((repeat' (first | (with_reducible rfl) | split)) <;> (first | ((try simp only [e59, z1, z2, z3, z4, z5]); done) | (exfalso; omega)))); rw [eT]; exact ⟨⟨_, _, _, _, _, _, _, q67, q68, q69, q70, q71, q72, q73, h74, Im.o h75, Im.o h76⟩, (Or.inr ⟨by first | decide | omega, by omega⟩)⟩)⟩
        · refine mv_aload_n d_Reader_isSign_8 rfl rfl ?_
          refine tr_getK (k := 13) q37 d_Reader_isSign_9 f_Reader_241_9 ?_
          refine mv_iload_n d_Reader_isSign_12 rfl rfl ?_
          have := mz_hi v30
          refine mv_icmp_neZ (tgt := 20) (a := v30.toInt) (b := 91) d_Reader_isSign_13 (by decide) rfl (by decide) (fun b420 => ?_) (fun b420 => ?_)
          · refine mv_iconst (v := 0) d_Reader_isSign_20 (by decide) ?_
            refine mv_iret d_Reader_isSign_21 rfl (by decide) ?_
            refine mv_if_eq_t (tgt := 86) d_Reader_term_46 (by decide) (by decide) ?_
            refine mv_aload_n d_Reader_term_86 rfl rfl ?_
            obtain ⟨_, b427, -⟩ := I_18.1 _ _ h_q0_18
            refine mv_callV (kc' := 0) (ks' := 0) (As := []) (st9 := [.ref o0]) d_Reader_term_87 lV_Reader_186 b427 rfl (tc_Reader_sum_q0_x (d := d) (x9 := x9) (o0 := o0) h_q0_18 (p := p) kp0_18 (by omega) (by first | omega | decide) (hK I_18) ⟨_, _, _, _, _, _, _, q31, q32, q33, q34, q35, q36, q37, h38, Im.o h39, Im.o h40⟩ (by omega) I_18.start) rfl (Nat.le_of_ble_eq_true rfl) (Nat.le_of_ble_eq_true rfl) (Nat.le_of_ble_eq_true rfl) (hst := rfl) (fun b421r M422 n423 b421 => ?_)
            obtain ⟨T424, J425, v428, rfl, b429, b430, o431, f432, f433⟩ := b421
            have I426 := I_18.call J425 (tm_sub (by decide)) (Or.inl rfl)
            have t434 := J425.up h_q0_18
            obtain ⟨s435, e436⟩ : ∃ s9 : p_S, p_sum pb pn pa (p_op pb pn pa 0) s19 = s9 := ⟨_, rfl⟩
            rw [e436] at f432 f433
            obtain ⟨v437, v438, v439, v440, v441, v442, v443, q444, q445, q446, q447, q448, q449, q450, h451, h452, h453⟩ := f432
            replace h452 := Im.i h452
            replace h453 := Im.i h453
            have := mz_hi v428
            refine mv_if_neZ (tgt := 95) (a := v428.toInt) d_Reader_term_90 (by decide) rfl (fun b454 => ?_) (fun b454 => ?_)
            · have q455 := o431 (by omega)
              refine mv_aload_n d_Reader_term_95 rfl rfl ?_
              obtain ⟨_, b456, -⟩ := I426.1 _ _ t434
              refine mv_callV (kc1 := 0) (ks1 := 0) (kc' := 0) (ks' := 0) (As := []) (st9 := [.ref o0]) d_Reader_term_96 lV_Reader_215 b456 rfl (mj_enter (by decide) (Nat.le_of_ble_eq_true rfl) ?_) rfl (Nat.le_of_ble_eq_true rfl) (Nat.le_of_ble_eq_true rfl) (Nat.le_of_ble_eq_true rfl) (hst := rfl) (fun _ _ _ h => h)
              refine mv_aload_n d_Reader_comparisonHere_0 rfl rfl ?_
              refine mv_bipush (v := 60) d_Reader_comparisonHere_1 (by decide) ?_
              obtain ⟨_, b457, -⟩ := I426.1 _ _ t434
              refine mv_callV (kc1 := 0) (ks1 := 0) (kc' := 0) (ks' := 0) (As := [.int 60]) (st9 := [.int 60, .ref o0]) d_Reader_comparisonHere_3 lV_Reader_209 b457 rfl (mj_enter (by decide) (Nat.le_of_ble_eq_true rfl) ?_) rfl (Nat.le_of_ble_eq_true rfl) (Nat.le_of_ble_eq_true rfl) (Nat.le_of_ble_eq_true rfl) (hst := rfl) (fun _ _ _ h => h)
              refine mv_aload_n d_Reader_isSign_0 rfl rfl ?_
              refine tr_getK (k := 10) q447 d_Reader_isSign_1 f_Reader_41_9 ?_
              refine mv_iconst (v := 3) d_Reader_isSign_4 (by decide) ?_
              have := mz_hi v440
              refine mv_icmp_neZ (tgt := 20) (a := v440.toInt) (b := 3) d_Reader_isSign_5 (by decide) rfl (by decide) (fun b458 => ?_) (fun b458 => ?_)
              · refine mv_iconst (v := 0) d_Reader_isSign_20 (by decide) ?_
                refine mv_iret d_Reader_isSign_21 rfl (by decide) ?_
                refine mv_if_eq_t (tgt := 11) d_Reader_comparisonHere_6 (by decide) (by decide) ?_
                refine mv_aload_n d_Reader_comparisonHere_11 rfl rfl ?_
                refine mv_bipush (v := 62) d_Reader_comparisonHere_12 (by decide) ?_
                obtain ⟨_, b459, -⟩ := I426.1 _ _ t434
                refine mv_callV (kc1 := 0) (ks1 := 0) (kc' := 0) (ks' := 0) (As := [.int 62]) (st9 := [.int 62, .ref o0]) d_Reader_comparisonHere_14 lV_Reader_209 b459 rfl (mj_enter (by decide) (Nat.le_of_ble_eq_true rfl) ?_) rfl (Nat.le_of_ble_eq_true rfl) (Nat.le_of_ble_eq_true rfl) (Nat.le_of_ble_eq_true rfl) (hst := rfl) (fun _ _ _ h => h)
                refine mv_aload_n d_Reader_isSign_0 rfl rfl ?_
                refine tr_getK (k := 10) q447 d_Reader_isSign_1 f_Reader_41_9 ?_
                refine mv_iconst (v := 3) d_Reader_isSign_4 (by decide) ?_
                have := mz_hi v440
                refine mv_icmp_neZ (tgt := 20) (a := v440.toInt) (b := 3) d_Reader_isSign_5 (by decide) rfl (by decide) (fun b460 => ?_) (fun b460 => absurd b460 (by omega))
                refine mv_iconst (v := 0) d_Reader_isSign_20 (by decide) ?_
                refine mv_iret d_Reader_isSign_21 rfl (by decide) ?_
                refine mv_if_eq_t (tgt := 23) d_Reader_comparisonHere_17 (by decide) (by decide) ?_
                refine mv_aload_n d_Reader_comparisonHere_23 rfl rfl ?_
                refine mv_bipush (v := 61) d_Reader_comparisonHere_24 (by decide) ?_
                obtain ⟨_, b461, -⟩ := I426.1 _ _ t434
                refine mv_callV (kc1 := 0) (ks1 := 0) (kc' := 0) (ks' := 0) (As := [.int 61]) (st9 := [.int 61, .ref o0]) d_Reader_comparisonHere_26 lV_Reader_209 b461 rfl (mj_enter (by decide) (Nat.le_of_ble_eq_true rfl) ?_) rfl (Nat.le_of_ble_eq_true rfl) (Nat.le_of_ble_eq_true rfl) (Nat.le_of_ble_eq_true rfl) (hst := rfl) (fun _ _ _ h => h)
                refine mv_aload_n d_Reader_isSign_0 rfl rfl ?_
                refine tr_getK (k := 10) q447 d_Reader_isSign_1 f_Reader_41_9 ?_
                refine mv_iconst (v := 3) d_Reader_isSign_4 (by decide) ?_
                have := mz_hi v440
                refine mv_icmp_neZ (tgt := 20) (a := v440.toInt) (b := 3) d_Reader_isSign_5 (by decide) rfl (by decide) (fun b462 => ?_) (fun b462 => absurd b462 (by omega))
                refine mv_iconst (v := 0) d_Reader_isSign_20 (by decide) ?_
                refine mv_iret d_Reader_isSign_21 rfl (by decide) ?_
                refine mv_if_eq_t (tgt := 37) d_Reader_comparisonHere_29 (by decide) (by decide) ?_
                refine mv_iconst (v := (-1)) d_Reader_comparisonHere_37 (by decide) ?_
                refine mv_iret d_Reader_comparisonHere_38 rfl (by first | rfl | decide) ?_
                refine mv_istore_n (lv' := [(2, .int (-1)), (1, .int i1_18), (0, .ref o0)]) d_Reader_term_99 rfl (by decide) rfl ?_
                refine mv_iload_n d_Reader_term_100 rfl rfl ?_
                refine mv_iconst (v := (-1)) d_Reader_term_101 (by decide) ?_
                refine mv_icmp_ne_f (tgt := 111) d_Reader_term_102 (by decide) (by decide) ?_
                refine mv_aload_n d_Reader_term_105 rfl rfl ?_
                refine mv_iconst (v := 1) d_Reader_term_106 (by decide) ?_
                obtain ⟨_, b463, -⟩ := I426.1 _ _ t434
                refine mv_callV (kc1 := 0) (ks1 := 0) (kc' := 0) (ks' := 0) (As := [.int 1]) (st9 := [.int 1, .ref o0]) d_Reader_term_107 lV_Reader_56 b463 rfl (mj_enter (by decide) (Nat.le_of_ble_eq_true rfl) ?_) rfl (Nat.le_of_ble_eq_true rfl) (Nat.le_of_ble_eq_true rfl) (Nat.le_of_ble_eq_true rfl) (hst := rfl) (fun _ _ _ h => h)
                refine mv_aload_n d_Reader_refuse_0 rfl rfl ?_
                refine mv_iload_n d_Reader_refuse_1 rfl rfl ?_
                refine tr_putK tm_okF I426 t434 (k := 1) rfl ⟨_, rfl⟩ (Or.inl (by decide)) d_Reader_refuse_2 p_Reader_70_9 rfl rfl (fun M464 I465 q466 K467 => ?_)
                refine mv_aload_n d_Reader_refuse_5 rfl rfl ?_
                refine mv_aload_n d_Reader_refuse_6 rfl rfl ?_
                refine tr_getK (k := 11) (K467 _ 9 11 _ rfl q448) d_Reader_refuse_7 f_Reader_175_9 ?_
                refine tr_putK tm_okF I465 t434 (k := 2) rfl ⟨_, rfl⟩ (Or.inl (by decide)) d_Reader_refuse_10 p_Reader_11_9 rfl rfl (fun M468 I469 q470 K471 => ?_)
                refine mv_iconst (v := 0) d_Reader_refuse_13 (by decide) ?_
                obtain ⟨s472, e473⟩ : ∃ s9 : p_S, p_fl pb pn 1 s435 = s9 := ⟨_, rfl⟩
                have h474 := q_fl e473 (by omega) (by decide)
                have h475 : (1 : Int32).toInt = s472.1 := (by have e9 : (1 : Int32).toInt = 1 := (by decide); omega)
                have h476 : Im (s472.1 ≠ 0 → v441.toInt = (s472.2.1 : Int)) := Im.i (fun _ => by have := (Im.o h453) (by omega); omega)
                have h477 : Im (s472.1 = 0 → v439.toInt = (s472.2.2 : Int) ∧ v440.toInt = p_ki pb pn s472.2.2 ∧ v441.toInt = (p_st pb pn s472.2.2 : Int) ∧ v442.toInt = (p_sp pb pn s472.2.2 : Int) ∧ v443.toInt = p_va pb pn s472.2.2 ∧ v441.toInt = -1) := Im.i (fun z9 => absurd z9 h474.2.2)
                refine mv_iret d_Reader_refuse_14 rfl (by decide) ?_
                exact mv_iret d_Reader_term_110 rfl (by decide) ⟨_, I469, _, rfl, by decide, by decide, fun h => absurd h (by decide), (by have := (Im.o h40) (by omega); have := yC.d s19.2.2; have := yC.kn s19.2.2; have := (Im.o h453) (by omega); have := yC.d s435.2.2; have := yC.kn s435.2.2; have hb : s472.1 ≠ 0 := (by omega); have z1 : ∀ c, p_sg pb pn c s472 = s472 := (fun c => p_sg_Z s472 hb); have z2 : ∀ c, p_wd pb pn c s472 = s472 := (fun c => p_wd_Z s472 hb); have z3 : ∀ op, p_sum pb pn pa op s472 = s472 := (fun op => p_sum_Z s472 hb); have z4 : ∀ r oc, p_con pb pn pa r oc s472 = s472 := (fun r oc => p_con_Z s472 hb); have z5 : p_prt pb pn s472 = s472 := p_prt_Z s472 hb; have eT : p_ter pb pn pa 0 (p_oc pb pn pa 0) ps = s472 := (by have hop : p_oc pb pn pa 0 s19 = p_fl pb pn 4 s19 := rfl; have hX := e23.symm.trans (p_lp_stop (show (p_no1 pb pn) s19 = s19 from if_neg (fun h9 => by omega))); unfold p_ter; rw [hX]; unfold p_te1; unfold p_cmp; (try simp only [hop]); (try simp only [e436, e473, z1, z2, z3, z4, z5]); ((repeat' (first | (with_reducible rfl) | split)) <;> (first | ((try simp only [e436, e473, z1, z2, z3, z4, z5]); done) | (exfalso; omega)))); rw [eT]; exact ⟨⟨_, _, _, _, _, _, _, (K471 _ 9 1 _ rfl q466), q470, (K471 _ 9 9 _ rfl (K467 _ 9 9 _ rfl q446)), (K471 _ 9 10 _ rfl (K467 _ 9 10 _ rfl q447)), (K471 _ 9 11 _ rfl (K467 _ 9 11 _ rfl q448)), (K471 _ 9 12 _ rfl (K467 _ 9 12 _ rfl q449)), (K471 _ 9 13 _ rfl (K467 _ 9 13 _ rfl q450)), h475, Im.o h476, Im.o h477⟩, (Or.inr ⟨by first | decide | omega, by omega⟩)⟩)⟩
              · refine mv_aload_n d_Reader_isSign_8 rfl rfl ?_
                refine tr_getK (k := 13) q450 d_Reader_isSign_9 f_Reader_241_9 ?_
                refine mv_iload_n d_Reader_isSign_12 rfl rfl ?_
                have := mz_hi v443
                refine mv_icmp_neZ (tgt := 20) (a := v443.toInt) (b := 60) d_Reader_isSign_13 (by decide) rfl (by decide) (fun b478 => ?_) (fun b478 => ?_)
                · refine mv_iconst (v := 0) d_Reader_isSign_20 (by decide) ?_
                  refine mv_iret d_Reader_isSign_21 rfl (by decide) ?_
                  refine mv_if_eq_t (tgt := 11) d_Reader_comparisonHere_6 (by decide) (by decide) ?_
                  refine mv_aload_n d_Reader_comparisonHere_11 rfl rfl ?_
                  refine mv_bipush (v := 62) d_Reader_comparisonHere_12 (by decide) ?_
                  obtain ⟨_, b479, -⟩ := I426.1 _ _ t434
                  refine mv_callV (kc1 := 0) (ks1 := 0) (kc' := 0) (ks' := 0) (As := [.int 62]) (st9 := [.int 62, .ref o0]) d_Reader_comparisonHere_14 lV_Reader_209 b479 rfl (mj_enter (by decide) (Nat.le_of_ble_eq_true rfl) ?_) rfl (Nat.le_of_ble_eq_true rfl) (Nat.le_of_ble_eq_true rfl) (Nat.le_of_ble_eq_true rfl) (hst := rfl) (fun _ _ _ h => h)
                  refine mv_aload_n d_Reader_isSign_0 rfl rfl ?_
                  refine tr_getK (k := 10) q447 d_Reader_isSign_1 f_Reader_41_9 ?_
                  refine mv_iconst (v := 3) d_Reader_isSign_4 (by decide) ?_
                  have := mz_hi v440
                  refine mv_icmp_neZ (tgt := 20) (a := v440.toInt) (b := 3) d_Reader_isSign_5 (by decide) rfl (by decide) (fun b480 => absurd b480 (by omega)) (fun b480 => ?_)
                  refine mv_aload_n d_Reader_isSign_8 rfl rfl ?_
                  refine tr_getK (k := 13) q450 d_Reader_isSign_9 f_Reader_241_9 ?_
                  refine mv_iload_n d_Reader_isSign_12 rfl rfl ?_
                  have := mz_hi v443
                  refine mv_icmp_neZ (tgt := 20) (a := v443.toInt) (b := 62) d_Reader_isSign_13 (by decide) rfl (by decide) (fun b481 => ?_) (fun b481 => ?_)
                  · refine mv_iconst (v := 0) d_Reader_isSign_20 (by decide) ?_
                    refine mv_iret d_Reader_isSign_21 rfl (by decide) ?_
                    refine mv_if_eq_t (tgt := 23) d_Reader_comparisonHere_17 (by decide) (by decide) ?_
                    refine mv_aload_n d_Reader_comparisonHere_23 rfl rfl ?_
                    refine mv_bipush (v := 61) d_Reader_comparisonHere_24 (by decide) ?_
                    obtain ⟨_, b482, -⟩ := I426.1 _ _ t434
                    refine mv_callV (kc1 := 0) (ks1 := 0) (kc' := 0) (ks' := 0) (As := [.int 61]) (st9 := [.int 61, .ref o0]) d_Reader_comparisonHere_26 lV_Reader_209 b482 rfl (mj_enter (by decide) (Nat.le_of_ble_eq_true rfl) ?_) rfl (Nat.le_of_ble_eq_true rfl) (Nat.le_of_ble_eq_true rfl) (Nat.le_of_ble_eq_true rfl) (hst := rfl) (fun _ _ _ h => h)
                    refine mv_aload_n d_Reader_isSign_0 rfl rfl ?_
                    refine tr_getK (k := 10) q447 d_Reader_isSign_1 f_Reader_41_9 ?_
                    refine mv_iconst (v := 3) d_Reader_isSign_4 (by decide) ?_
                    have := mz_hi v440
                    refine mv_icmp_neZ (tgt := 20) (a := v440.toInt) (b := 3) d_Reader_isSign_5 (by decide) rfl (by decide) (fun b483 => absurd b483 (by omega)) (fun b483 => ?_)
                    refine mv_aload_n d_Reader_isSign_8 rfl rfl ?_
                    refine tr_getK (k := 13) q450 d_Reader_isSign_9 f_Reader_241_9 ?_
                    refine mv_iload_n d_Reader_isSign_12 rfl rfl ?_
                    have := mz_hi v443
                    refine mv_icmp_neZ (tgt := 20) (a := v443.toInt) (b := 61) d_Reader_isSign_13 (by decide) rfl (by decide) (fun b484 => ?_) (fun b484 => ?_)
                    · refine mv_iconst (v := 0) d_Reader_isSign_20 (by decide) ?_
                      refine mv_iret d_Reader_isSign_21 rfl (by decide) ?_
                      refine mv_if_eq_t (tgt := 37) d_Reader_comparisonHere_29 (by decide) (by decide) ?_
                      refine mv_iconst (v := (-1)) d_Reader_comparisonHere_37 (by decide) ?_
                      refine mv_iret d_Reader_comparisonHere_38 rfl (by first | rfl | decide) ?_
                      refine mv_istore_n (lv' := [(2, .int (-1)), (1, .int i1_18), (0, .ref o0)]) d_Reader_term_99 rfl (by decide) rfl ?_
                      refine mv_iload_n d_Reader_term_100 rfl rfl ?_
                      refine mv_iconst (v := (-1)) d_Reader_term_101 (by decide) ?_
                      refine mv_icmp_ne_f (tgt := 111) d_Reader_term_102 (by decide) (by decide) ?_
                      refine mv_aload_n d_Reader_term_105 rfl rfl ?_
                      refine mv_iconst (v := 1) d_Reader_term_106 (by decide) ?_
                      obtain ⟨_, b485, -⟩ := I426.1 _ _ t434
                      refine mv_callV (kc1 := 0) (ks1 := 0) (kc' := 0) (ks' := 0) (As := [.int 1]) (st9 := [.int 1, .ref o0]) d_Reader_term_107 lV_Reader_56 b485 rfl (mj_enter (by decide) (Nat.le_of_ble_eq_true rfl) ?_) rfl (Nat.le_of_ble_eq_true rfl) (Nat.le_of_ble_eq_true rfl) (Nat.le_of_ble_eq_true rfl) (hst := rfl) (fun _ _ _ h => h)
                      refine mv_aload_n d_Reader_refuse_0 rfl rfl ?_
                      refine mv_iload_n d_Reader_refuse_1 rfl rfl ?_
                      refine tr_putK tm_okF I426 t434 (k := 1) rfl ⟨_, rfl⟩ (Or.inl (by decide)) d_Reader_refuse_2 p_Reader_70_9 rfl rfl (fun M486 I487 q488 K489 => ?_)
                      refine mv_aload_n d_Reader_refuse_5 rfl rfl ?_
                      refine mv_aload_n d_Reader_refuse_6 rfl rfl ?_
                      refine tr_getK (k := 11) (K489 _ 9 11 _ rfl q448) d_Reader_refuse_7 f_Reader_175_9 ?_
                      refine tr_putK tm_okF I487 t434 (k := 2) rfl ⟨_, rfl⟩ (Or.inl (by decide)) d_Reader_refuse_10 p_Reader_11_9 rfl rfl (fun M490 I491 q492 K493 => ?_)
                      refine mv_iconst (v := 0) d_Reader_refuse_13 (by decide) ?_
                      obtain ⟨s494, e495⟩ : ∃ s9 : p_S, p_fl pb pn 1 s435 = s9 := ⟨_, rfl⟩
                      have h496 := q_fl e495 (by omega) (by decide)
                      have h497 : (1 : Int32).toInt = s494.1 := (by have e9 : (1 : Int32).toInt = 1 := (by decide); omega)
                      have h498 : Im (s494.1 ≠ 0 → v441.toInt = (s494.2.1 : Int)) := Im.i (fun _ => by have := (Im.o h453) (by omega); omega)
                      have h499 : Im (s494.1 = 0 → v439.toInt = (s494.2.2 : Int) ∧ v440.toInt = p_ki pb pn s494.2.2 ∧ v441.toInt = (p_st pb pn s494.2.2 : Int) ∧ v442.toInt = (p_sp pb pn s494.2.2 : Int) ∧ v443.toInt = p_va pb pn s494.2.2 ∧ v441.toInt = -1) := Im.i (fun z9 => absurd z9 h496.2.2)
                      refine mv_iret d_Reader_refuse_14 rfl (by decide) ?_
                      exact mv_iret d_Reader_term_110 rfl (by decide) ⟨_, I491, _, rfl, by decide, by decide, fun h => absurd h (by decide), (by have := (Im.o h40) (by omega); have := yC.d s19.2.2; have := yC.kn s19.2.2; have := (Im.o h453) (by omega); have := yC.d s435.2.2; have := yC.kn s435.2.2; have hb : s494.1 ≠ 0 := (by omega); have z1 : ∀ c, p_sg pb pn c s494 = s494 := (fun c => p_sg_Z s494 hb); have z2 : ∀ c, p_wd pb pn c s494 = s494 := (fun c => p_wd_Z s494 hb); have z3 : ∀ op, p_sum pb pn pa op s494 = s494 := (fun op => p_sum_Z s494 hb); have z4 : ∀ r oc, p_con pb pn pa r oc s494 = s494 := (fun r oc => p_con_Z s494 hb); have z5 : p_prt pb pn s494 = s494 := p_prt_Z s494 hb; have eT : p_ter pb pn pa 0 (p_oc pb pn pa 0) ps = s494 := (by have hop : p_oc pb pn pa 0 s19 = p_fl pb pn 4 s19 := rfl; have hX := e23.symm.trans (p_lp_stop (show (p_no1 pb pn) s19 = s19 from if_neg (fun h9 => by omega))); unfold p_ter; rw [hX]; unfold p_te1; unfold p_cmp; (try simp only [hop]); (try simp only [e436, e495, z1, z2, z3, z4, z5]); ((repeat' (first | (with_reducible rfl) | split)) <;> (first | ((try simp only [e436, e495, z1, z2, z3, z4, z5]); done) | (exfalso; omega)))); rw [eT]; exact ⟨⟨_, _, _, _, _, _, _, (K493 _ 9 1 _ rfl q488), q492, (K493 _ 9 9 _ rfl (K489 _ 9 9 _ rfl q446)), (K493 _ 9 10 _ rfl (K489 _ 9 10 _ rfl q447)), (K493 _ 9 11 _ rfl (K489 _ 9 11 _ rfl q448)), (K493 _ 9 12 _ rfl (K489 _ 9 12 _ rfl q449)), (K493 _ 9 13 _ rfl (K489 _ 9 13 _ rfl q450)), h497, Im.o h498, Im.o h499⟩, (Or.inr ⟨by first | decide | omega, by omega⟩)⟩)⟩
                    · refine mv_iconst (v := 1) d_Reader_isSign_16 (by decide) ?_
                      refine mv_goto (tgt := 21) d_Reader_isSign_17 (by decide) ?_
                      refine mv_iret d_Reader_isSign_21 rfl (by decide) ?_
                      refine mv_if_eq_f (tgt := 37) d_Reader_comparisonHere_29 (by decide) (by decide) ?_
                      refine mv_bipush (v := 7) d_Reader_comparisonHere_32 (by decide) ?_
                      refine mv_goto (tgt := 38) d_Reader_comparisonHere_34 (by decide) ?_
                      refine mv_iret d_Reader_comparisonHere_38 rfl (by first | rfl | decide) ?_
                      refine mv_istore_n (lv' := [(2, .int 7), (1, .int i1_18), (0, .ref o0)]) d_Reader_term_99 rfl (by decide) rfl ?_
                      refine mv_iload_n d_Reader_term_100 rfl rfl ?_
                      refine mv_iconst (v := (-1)) d_Reader_term_101 (by decide) ?_
                      refine mv_icmp_ne_t (tgt := 111) d_Reader_term_102 (by decide) (by decide) ?_
                      refine mv_aload_n d_Reader_term_111 rfl rfl ?_
                      obtain ⟨_, b506, -⟩ := I426.1 _ _ t434
                      refine mv_callV (kc' := 0) (ks' := 0) (As := []) (st9 := [.ref o0]) d_Reader_term_112 lV_Reader_82 b506 rfl (tc_Reader_advance_x (d := (d + 4)) (x9 := x9) (o0 := o0) t434 (hK I426) (qS.a (show qS M422 o0 pb pn s435 from ⟨_, _, _, _, _, _, _, q444, q445, q446, q447, q448, q449, q450, h451, Im.o h452, Im.o h453⟩)) (by have := (Im.o h40) (by omega); have := yC.d s19.2.2; have := yC.kn s19.2.2; have := (Im.o h453) (by omega); have := yC.d s435.2.2; have := yC.kn s435.2.2; show s435.2.2 + 1 ≤ 401; omega) I426.start) rfl (Nat.le_of_ble_eq_true rfl) (Nat.le_of_ble_eq_true rfl) (Nat.le_of_ble_eq_true rfl) (hst := rfl) (fun b500r M501 n502 b500 => ?_)
                      obtain ⟨T503, J504, rfl, f507⟩ := b500
                      have I505 := I426.call J504 (tm_sub (by decide)) (Or.inl rfl)
                      have t508 := J504.up t434
                      have q509 := J504.keep (I426.up h_o0) (by decide) q444
                      have q510 := J504.keep (I426.up h_o0) (by decide) q445
                      have q511 := J504.keep t434 (by decide) q455
                      obtain ⟨s512, e513⟩ : ∃ s9 : p_S, p_nx s435 = s9 := ⟨_, rfl⟩
                      rw [e513] at f507
                      have : s512.1 = 0 := by rw [← e513]; show s435.1 = 0; omega
                      obtain ⟨v514, v515, v516, v517, v518, v519, v520, q521, q522, q523, q524, q525, q526, q527, h528, h529, h530⟩ := f507
                      replace h529 := Im.i h529
                      replace h530 := Im.i h530
                      refine mv_aload_n d_Reader_term_115 rfl rfl ?_
                      obtain ⟨_, b537, -⟩ := I505.1 _ _ t508
                      refine mv_callV (kc' := 0) (ks' := 0) (As := []) (st9 := [.ref o0]) d_Reader_term_116 lV_Reader_186 b537 rfl (tc_Reader_sum_q0_x (d := d) (x9 := x9) (o0 := o0) t508 (p := p) q511 (by omega) (by first | omega | decide) (hK I505) ⟨_, _, _, _, _, _, _, q521, q522, q523, q524, q525, q526, q527, h528, Im.o h529, Im.o h530⟩ (by omega) I505.start) rfl (Nat.le_of_ble_eq_true rfl) (Nat.le_of_ble_eq_true rfl) (Nat.le_of_ble_eq_true rfl) (hst := rfl) (fun b531r M532 n533 b531 => ?_)
                      obtain ⟨T534, J535, v538, rfl, b539, b540, o541, f542, f543⟩ := b531
                      have I536 := I505.call J535 (tm_sub (by decide)) (Or.inl rfl)
                      have t544 := J535.up t508
                      obtain ⟨s545, e546⟩ : ∃ s9 : p_S, p_sum pb pn pa (p_op pb pn pa 0) s512 = s9 := ⟨_, rfl⟩
                      rw [e546] at f542 f543
                      obtain ⟨v547, v548, v549, v550, v551, v552, v553, q554, q555, q556, q557, q558, q559, q560, h561, h562, h563⟩ := f542
                      replace h562 := Im.i h562
                      replace h563 := Im.i h563
                      have := mz_hi v538
                      refine mv_if_neZ (tgt := 124) (a := v538.toInt) d_Reader_term_119 (by decide) rfl (fun b564 => ?_) (fun b564 => ?_)
                      · have q565 := o541 (by omega)
                        refine mv_aload_n d_Reader_term_124 rfl rfl ?_
                        refine mv_iload_n d_Reader_term_125 rfl rfl ?_
                        refine mv_iconst (v := 0) d_Reader_term_126 (by decide) ?_
                        obtain ⟨_, b572, -⟩ := I536.1 _ _ t544
                        refine mv_callV (kc' := 0) (ks' := 0) (As := [.int 7, .int 0]) (st9 := [.int 0, .int 7, .ref o0]) d_Reader_term_127 lV_Reader_203 b572 rfl (tc_Reader_emit (d := (d + 4)) (x9 := x9) (o0 := o0) (x1 := 7) (x2 := 0) t544 I536.start) rfl (Nat.le_of_ble_eq_true rfl) (Nat.le_of_ble_eq_true rfl) (Nat.le_of_ble_eq_true rfl) (hst := rfl) (fun b566r M567 n568 b566 => ?_)
                        obtain ⟨T569, J570, rfl⟩ := b566
                        have I571 := I536.call J570 (tm_sub (by decide)) (Or.inl rfl)
                        have t573 := J570.up t544
                        have q574 := J570.keep (I536.up h_o0) (by decide) q554
                        have q575 := J570.keep (I536.up h_o0) (by decide) q555
                        have q576 := J570.keep (I536.up h_o0) (by decide) q556
                        have q577 := J570.keep (I536.up h_o0) (by decide) q557
                        have q578 := J570.keep (I536.up h_o0) (by decide) q558
                        have q579 := J570.keep (I536.up h_o0) (by decide) q559
                        have q580 := J570.keep (I536.up h_o0) (by decide) q560
                        have q581 := J570.keep t544 (by decide) q565
                        refine mv_iload_n d_Reader_term_130 rfl rfl ?_
                        have := mz_hi i1_18
                        refine mv_if_eqZ (tgt := 141) (a := i1_18.toInt) d_Reader_term_131 (by decide) rfl (fun b582 => ?_) (fun b582 => ?_)
                        · refine mv_iconst (v := 1) d_Reader_term_141 (by decide) ?_
                          exact mv_iret d_Reader_term_142 rfl (by decide) ⟨_, I571, _, rfl, by decide, by decide, fun _ => q581, (by have := (Im.o h40) (by omega); have := yC.d s19.2.2; have := yC.kn s19.2.2; have := (Im.o h453) (by omega); have := yC.d s435.2.2; have := yC.kn s435.2.2; have eT : p_ter pb pn pa 0 (p_oc pb pn pa 0) ps = s545 := (by have hop : p_oc pb pn pa 0 s19 = p_fl pb pn 4 s19 := rfl; have hX := e23.symm.trans (p_lp_stop (show (p_no1 pb pn) s19 = s19 from if_neg (fun h9 => by omega))); unfold p_ter; rw [hX]; unfold p_te1; unfold p_cmp; (try simp only [hop]); (try simp only [e436, e513, e546]); ((repeat' (first | (with_reducible rfl) | split)) <;> (first | ((try simp only [e436, e513, e546]); done) | (exfalso; omega)))); rw [eT]; exact ⟨⟨_, _, _, _, _, _, _, q574, q575, q576, q577, q578, q579, q580, h561, Im.o h562, Im.o h563⟩, (Or.inl ⟨by first | decide | omega, by omega⟩)⟩)⟩
                        · refine mv_aload_n d_Reader_term_134 rfl rfl ?_
                          refine mv_bipush (v := 8) d_Reader_term_135 (by decide) ?_
                          refine mv_iconst (v := 0) d_Reader_term_137 (by decide) ?_
                          obtain ⟨_, b589, -⟩ := I571.1 _ _ t573
                          refine mv_callV (kc' := 0) (ks' := 0) (As := [.int 8, .int 0]) (st9 := [.int 0, .int 8, .ref o0]) d_Reader_term_138 lV_Reader_203 b589 rfl (tc_Reader_emit (d := (d + 4)) (x9 := x9) (o0 := o0) (x1 := 8) (x2 := 0) t573 I571.start) rfl (Nat.le_of_ble_eq_true rfl) (Nat.le_of_ble_eq_true rfl) (Nat.le_of_ble_eq_true rfl) (hst := rfl) (fun b583r M584 n585 b583 => ?_)
                          obtain ⟨T586, J587, rfl⟩ := b583
                          have I588 := I571.call J587 (tm_sub (by decide)) (Or.inl rfl)
                          have t590 := J587.up t573
                          have q591 := J587.keep t573 (by decide) q574
                          have q592 := J587.keep t573 (by decide) q575
                          have q593 := J587.keep t573 (by decide) q576
                          have q594 := J587.keep t573 (by decide) q577
                          have q595 := J587.keep t573 (by decide) q578
                          have q596 := J587.keep t573 (by decide) q579
                          have q597 := J587.keep t573 (by decide) q580
                          have q598 := J587.keep t573 (by decide) q581
                          refine mv_iconst (v := 1) d_Reader_term_141 (by decide) ?_
                          exact mv_iret d_Reader_term_142 rfl (by decide) ⟨_, I588, _, rfl, by decide, by decide, fun _ => q598, (by have := (Im.o h40) (by omega); have := yC.d s19.2.2; have := yC.kn s19.2.2; have := (Im.o h453) (by omega); have := yC.d s435.2.2; have := yC.kn s435.2.2; have eT : p_ter pb pn pa 0 (p_oc pb pn pa 0) ps = s545 := (by have hop : p_oc pb pn pa 0 s19 = p_fl pb pn 4 s19 := rfl; have hX := e23.symm.trans (p_lp_stop (show (p_no1 pb pn) s19 = s19 from if_neg (fun h9 => by omega))); unfold p_ter; rw [hX]; unfold p_te1; unfold p_cmp; (try simp only [hop]); (try simp only [e436, e513, e546]); ((repeat' (first | (with_reducible rfl) | split)) <;> (first | ((try simp only [e436, e513, e546]); done) | (exfalso; omega)))); rw [eT]; exact ⟨⟨_, _, _, _, _, _, _, q591, q592, q593, q594, q595, q596, q597, h561, Im.o h562, Im.o h563⟩, (Or.inl ⟨by first | decide | omega, by omega⟩)⟩)⟩
                      · refine mv_iconst (v := 0) d_Reader_term_122 (by decide) ?_
                        exact mv_iret d_Reader_term_123 rfl (by decide) ⟨_, I536, _, rfl, by decide, by decide, fun h => absurd h (by decide), (by have := (Im.o h40) (by omega); have := yC.d s19.2.2; have := yC.kn s19.2.2; have := (Im.o h453) (by omega); have := yC.d s435.2.2; have := yC.kn s435.2.2; have hb : s545.1 ≠ 0 := (by omega); have z1 : ∀ c, p_sg pb pn c s545 = s545 := (fun c => p_sg_Z s545 hb); have z2 : ∀ c, p_wd pb pn c s545 = s545 := (fun c => p_wd_Z s545 hb); have z3 : ∀ op, p_sum pb pn pa op s545 = s545 := (fun op => p_sum_Z s545 hb); have z4 : ∀ r oc, p_con pb pn pa r oc s545 = s545 := (fun r oc => p_con_Z s545 hb); have z5 : p_prt pb pn s545 = s545 := p_prt_Z s545 hb; have eT : p_ter pb pn pa 0 (p_oc pb pn pa 0) ps = s545 := (by have hop : p_oc pb pn pa 0 s19 = p_fl pb pn 4 s19 := rfl; have hX := e23.symm.trans (p_lp_stop (show (p_no1 pb pn) s19 = s19 from if_neg (fun h9 => by omega))); unfold p_ter; rw [hX]; unfold p_te1; unfold p_cmp; (try simp only [hop]); (try simp only [e436, e513, e546, z1, z2, z3, z4, z5]); ((repeat' (first | (with_reducible rfl) | split)) <;> (first | ((try simp only [e436, e513, e546, z1, z2, z3, z4, z5]); done) | (exfalso; omega)))); rw [eT]; exact ⟨⟨_, _, _, _, _, _, _, q554, q555, q556, q557, q558, q559, q560, h561, Im.o h562, Im.o h563⟩, (Or.inr ⟨by first | decide | omega, by omega⟩)⟩)⟩
                  · refine mv_iconst (v := 1) d_Reader_isSign_16 (by decide) ?_
                    refine mv_goto (tgt := 21) d_Reader_isSign_17 (by decide) ?_
                    refine mv_iret d_Reader_isSign_21 rfl (by decide) ?_
                    refine mv_if_eq_f (tgt := 23) d_Reader_comparisonHere_17 (by decide) (by decide) ?_
                    refine mv_bipush (v := 6) d_Reader_comparisonHere_20 (by decide) ?_
                    refine mv_iret d_Reader_comparisonHere_22 rfl (by first | rfl | decide) ?_
                    refine mv_istore_n (lv' := [(2, .int 6), (1, .int i1_18), (0, .ref o0)]) d_Reader_term_99 rfl (by decide) rfl ?_
                    refine mv_iload_n d_Reader_term_100 rfl rfl ?_
                    refine mv_iconst (v := (-1)) d_Reader_term_101 (by decide) ?_
                    refine mv_icmp_ne_t (tgt := 111) d_Reader_term_102 (by decide) (by decide) ?_
                    refine mv_aload_n d_Reader_term_111 rfl rfl ?_
                    obtain ⟨_, b605, -⟩ := I426.1 _ _ t434
                    refine mv_callV (kc' := 0) (ks' := 0) (As := []) (st9 := [.ref o0]) d_Reader_term_112 lV_Reader_82 b605 rfl (tc_Reader_advance_x (d := (d + 4)) (x9 := x9) (o0 := o0) t434 (hK I426) (qS.a (show qS M422 o0 pb pn s435 from ⟨_, _, _, _, _, _, _, q444, q445, q446, q447, q448, q449, q450, h451, Im.o h452, Im.o h453⟩)) (by have := (Im.o h40) (by omega); have := yC.d s19.2.2; have := yC.kn s19.2.2; have := (Im.o h453) (by omega); have := yC.d s435.2.2; have := yC.kn s435.2.2; show s435.2.2 + 1 ≤ 401; omega) I426.start) rfl (Nat.le_of_ble_eq_true rfl) (Nat.le_of_ble_eq_true rfl) (Nat.le_of_ble_eq_true rfl) (hst := rfl) (fun b599r M600 n601 b599 => ?_)
                    obtain ⟨T602, J603, rfl, f606⟩ := b599
                    have I604 := I426.call J603 (tm_sub (by decide)) (Or.inl rfl)
                    have t607 := J603.up t434
                    have q608 := J603.keep (I426.up h_o0) (by decide) q444
                    have q609 := J603.keep (I426.up h_o0) (by decide) q445
                    have q610 := J603.keep t434 (by decide) q455
                    obtain ⟨s611, e612⟩ : ∃ s9 : p_S, p_nx s435 = s9 := ⟨_, rfl⟩
                    rw [e612] at f606
                    have : s611.1 = 0 := by rw [← e612]; show s435.1 = 0; omega
                    obtain ⟨v613, v614, v615, v616, v617, v618, v619, q620, q621, q622, q623, q624, q625, q626, h627, h628, h629⟩ := f606
                    replace h628 := Im.i h628
                    replace h629 := Im.i h629
                    refine mv_aload_n d_Reader_term_115 rfl rfl ?_
                    obtain ⟨_, b636, -⟩ := I604.1 _ _ t607
                    refine mv_callV (kc' := 0) (ks' := 0) (As := []) (st9 := [.ref o0]) d_Reader_term_116 lV_Reader_186 b636 rfl (tc_Reader_sum_q0_x (d := d) (x9 := x9) (o0 := o0) t607 (p := p) q610 (by omega) (by first | omega | decide) (hK I604) ⟨_, _, _, _, _, _, _, q620, q621, q622, q623, q624, q625, q626, h627, Im.o h628, Im.o h629⟩ (by omega) I604.start) rfl (Nat.le_of_ble_eq_true rfl) (Nat.le_of_ble_eq_true rfl) (Nat.le_of_ble_eq_true rfl) (hst := rfl) (fun b630r M631 n632 b630 => ?_)
                    obtain ⟨T633, J634, v637, rfl, b638, b639, o640, f641, f642⟩ := b630
                    have I635 := I604.call J634 (tm_sub (by decide)) (Or.inl rfl)
                    have t643 := J634.up t607
                    obtain ⟨s644, e645⟩ : ∃ s9 : p_S, p_sum pb pn pa (p_op pb pn pa 0) s611 = s9 := ⟨_, rfl⟩
                    rw [e645] at f641 f642
                    obtain ⟨v646, v647, v648, v649, v650, v651, v652, q653, q654, q655, q656, q657, q658, q659, h660, h661, h662⟩ := f641
                    replace h661 := Im.i h661
                    replace h662 := Im.i h662
                    have := mz_hi v637
                    refine mv_if_neZ (tgt := 124) (a := v637.toInt) d_Reader_term_119 (by decide) rfl (fun b663 => ?_) (fun b663 => ?_)
                    · have q664 := o640 (by omega)
                      refine mv_aload_n d_Reader_term_124 rfl rfl ?_
                      refine mv_iload_n d_Reader_term_125 rfl rfl ?_
                      refine mv_iconst (v := 0) d_Reader_term_126 (by decide) ?_
                      obtain ⟨_, b671, -⟩ := I635.1 _ _ t643
                      refine mv_callV (kc' := 0) (ks' := 0) (As := [.int 6, .int 0]) (st9 := [.int 0, .int 6, .ref o0]) d_Reader_term_127 lV_Reader_203 b671 rfl (tc_Reader_emit (d := (d + 4)) (x9 := x9) (o0 := o0) (x1 := 6) (x2 := 0) t643 I635.start) rfl (Nat.le_of_ble_eq_true rfl) (Nat.le_of_ble_eq_true rfl) (Nat.le_of_ble_eq_true rfl) (hst := rfl) (fun b665r M666 n667 b665 => ?_)
                      obtain ⟨T668, J669, rfl⟩ := b665
                      have I670 := I635.call J669 (tm_sub (by decide)) (Or.inl rfl)
                      have t672 := J669.up t643
                      have q673 := J669.keep (I635.up h_o0) (by decide) q653
                      have q674 := J669.keep (I635.up h_o0) (by decide) q654
                      have q675 := J669.keep (I635.up h_o0) (by decide) q655
                      have q676 := J669.keep (I635.up h_o0) (by decide) q656
                      have q677 := J669.keep (I635.up h_o0) (by decide) q657
                      have q678 := J669.keep (I635.up h_o0) (by decide) q658
                      have q679 := J669.keep (I635.up h_o0) (by decide) q659
                      have q680 := J669.keep t643 (by decide) q664
                      refine mv_iload_n d_Reader_term_130 rfl rfl ?_
                      have := mz_hi i1_18
                      refine mv_if_eqZ (tgt := 141) (a := i1_18.toInt) d_Reader_term_131 (by decide) rfl (fun b681 => ?_) (fun b681 => ?_)
                      · refine mv_iconst (v := 1) d_Reader_term_141 (by decide) ?_
                        exact mv_iret d_Reader_term_142 rfl (by decide) ⟨_, I670, _, rfl, by decide, by decide, fun _ => q680, (by have := (Im.o h40) (by omega); have := yC.d s19.2.2; have := yC.kn s19.2.2; have := (Im.o h453) (by omega); have := yC.d s435.2.2; have := yC.kn s435.2.2; have eT : p_ter pb pn pa 0 (p_oc pb pn pa 0) ps = s644 := (by have hop : p_oc pb pn pa 0 s19 = p_fl pb pn 4 s19 := rfl; have hX := e23.symm.trans (p_lp_stop (show (p_no1 pb pn) s19 = s19 from if_neg (fun h9 => by omega))); unfold p_ter; rw [hX]; unfold p_te1; unfold p_cmp; (try simp only [hop]); (try simp only [e436, e612, e645]); ((repeat' (first | (with_reducible rfl) | split)) <;> (first | ((try simp only [e436, e612, e645]); done) | (exfalso; omega)))); rw [eT]; exact ⟨⟨_, _, _, _, _, _, _, q673, q674, q675, q676, q677, q678, q679, h660, Im.o h661, Im.o h662⟩, (Or.inl ⟨by first | decide | omega, by omega⟩)⟩)⟩
                      · refine mv_aload_n d_Reader_term_134 rfl rfl ?_
                        refine mv_bipush (v := 8) d_Reader_term_135 (by decide) ?_
                        refine mv_iconst (v := 0) d_Reader_term_137 (by decide) ?_
                        obtain ⟨_, b688, -⟩ := I670.1 _ _ t672
                        refine mv_callV (kc' := 0) (ks' := 0) (As := [.int 8, .int 0]) (st9 := [.int 0, .int 8, .ref o0]) d_Reader_term_138 lV_Reader_203 b688 rfl (tc_Reader_emit (d := (d + 4)) (x9 := x9) (o0 := o0) (x1 := 8) (x2 := 0) t672 I670.start) rfl (Nat.le_of_ble_eq_true rfl) (Nat.le_of_ble_eq_true rfl) (Nat.le_of_ble_eq_true rfl) (hst := rfl) (fun b682r M683 n684 b682 => ?_)
                        obtain ⟨T685, J686, rfl⟩ := b682
                        have I687 := I670.call J686 (tm_sub (by decide)) (Or.inl rfl)
                        have t689 := J686.up t672
                        have q690 := J686.keep t672 (by decide) q673
                        have q691 := J686.keep t672 (by decide) q674
                        have q692 := J686.keep t672 (by decide) q675
                        have q693 := J686.keep t672 (by decide) q676
                        have q694 := J686.keep t672 (by decide) q677
                        have q695 := J686.keep t672 (by decide) q678
                        have q696 := J686.keep t672 (by decide) q679
                        have q697 := J686.keep t672 (by decide) q680
                        refine mv_iconst (v := 1) d_Reader_term_141 (by decide) ?_
                        exact mv_iret d_Reader_term_142 rfl (by decide) ⟨_, I687, _, rfl, by decide, by decide, fun _ => q697, (by have := (Im.o h40) (by omega); have := yC.d s19.2.2; have := yC.kn s19.2.2; have := (Im.o h453) (by omega); have := yC.d s435.2.2; have := yC.kn s435.2.2; have eT : p_ter pb pn pa 0 (p_oc pb pn pa 0) ps = s644 := (by have hop : p_oc pb pn pa 0 s19 = p_fl pb pn 4 s19 := rfl; have hX := e23.symm.trans (p_lp_stop (show (p_no1 pb pn) s19 = s19 from if_neg (fun h9 => by omega))); unfold p_ter; rw [hX]; unfold p_te1; unfold p_cmp; (try simp only [hop]); (try simp only [e436, e612, e645]); ((repeat' (first | (with_reducible rfl) | split)) <;> (first | ((try simp only [e436, e612, e645]); done) | (exfalso; omega)))); rw [eT]; exact ⟨⟨_, _, _, _, _, _, _, q690, q691, q692, q693, q694, q695, q696, h660, Im.o h661, Im.o h662⟩, (Or.inl ⟨by first | decide | omega, by omega⟩)⟩)⟩
                    · refine mv_iconst (v := 0) d_Reader_term_122 (by decide) ?_
                      exact mv_iret d_Reader_term_123 rfl (by decide) ⟨_, I635, _, rfl, by decide, by decide, fun h => absurd h (by decide), (by have := (Im.o h40) (by omega); have := yC.d s19.2.2; have := yC.kn s19.2.2; have := (Im.o h453) (by omega); have := yC.d s435.2.2; have := yC.kn s435.2.2; have hb : s644.1 ≠ 0 := (by omega); have z1 : ∀ c, p_sg pb pn c s644 = s644 := (fun c => p_sg_Z s644 hb); have z2 : ∀ c, p_wd pb pn c s644 = s644 := (fun c => p_wd_Z s644 hb); have z3 : ∀ op, p_sum pb pn pa op s644 = s644 := (fun op => p_sum_Z s644 hb); have z4 : ∀ r oc, p_con pb pn pa r oc s644 = s644 := (fun r oc => p_con_Z s644 hb); have z5 : p_prt pb pn s644 = s644 := p_prt_Z s644 hb; have eT : p_ter pb pn pa 0 (p_oc pb pn pa 0) ps = s644 := (by have hop : p_oc pb pn pa 0 s19 = p_fl pb pn 4 s19 := rfl; have hX := e23.symm.trans (p_lp_stop (show (p_no1 pb pn) s19 = s19 from if_neg (fun h9 => by omega))); unfold p_ter; rw [hX]; unfold p_te1; unfold p_cmp; (try simp only [hop]); (try simp only [e436, e612, e645, z1, z2, z3, z4, z5]); ((repeat' (first | (with_reducible rfl) | split)) <;> (first | ((try simp only [e436, e612, e645, z1, z2, z3, z4, z5]); done) | (exfalso; omega)))); rw [eT]; exact ⟨⟨_, _, _, _, _, _, _, q653, q654, q655, q656, q657, q658, q659, h660, Im.o h661, Im.o h662⟩, (Or.inr ⟨by first | decide | omega, by omega⟩)⟩)⟩
                · refine mv_iconst (v := 1) d_Reader_isSign_16 (by decide) ?_
                  refine mv_goto (tgt := 21) d_Reader_isSign_17 (by decide) ?_
                  refine mv_iret d_Reader_isSign_21 rfl (by decide) ?_
                  refine mv_if_eq_f (tgt := 11) d_Reader_comparisonHere_6 (by decide) (by decide) ?_
                  refine mv_iconst (v := 5) d_Reader_comparisonHere_9 (by decide) ?_
                  refine mv_iret d_Reader_comparisonHere_10 rfl (by first | rfl | decide) ?_
                  refine mv_istore_n (lv' := [(2, .int 5), (1, .int i1_18), (0, .ref o0)]) d_Reader_term_99 rfl (by decide) rfl ?_
                  refine mv_iload_n d_Reader_term_100 rfl rfl ?_
                  refine mv_iconst (v := (-1)) d_Reader_term_101 (by decide) ?_
                  refine mv_icmp_ne_t (tgt := 111) d_Reader_term_102 (by decide) (by decide) ?_
                  refine mv_aload_n d_Reader_term_111 rfl rfl ?_
                  obtain ⟨_, b704, -⟩ := I426.1 _ _ t434
                  refine mv_callV (kc' := 0) (ks' := 0) (As := []) (st9 := [.ref o0]) d_Reader_term_112 lV_Reader_82 b704 rfl (tc_Reader_advance_x (d := (d + 4)) (x9 := x9) (o0 := o0) t434 (hK I426) (qS.a (show qS M422 o0 pb pn s435 from ⟨_, _, _, _, _, _, _, q444, q445, q446, q447, q448, q449, q450, h451, Im.o h452, Im.o h453⟩)) (by have := (Im.o h40) (by omega); have := yC.d s19.2.2; have := yC.kn s19.2.2; have := (Im.o h453) (by omega); have := yC.d s435.2.2; have := yC.kn s435.2.2; show s435.2.2 + 1 ≤ 401; omega) I426.start) rfl (Nat.le_of_ble_eq_true rfl) (Nat.le_of_ble_eq_true rfl) (Nat.le_of_ble_eq_true rfl) (hst := rfl) (fun b698r M699 n700 b698 => ?_)
                  obtain ⟨T701, J702, rfl, f705⟩ := b698
                  have I703 := I426.call J702 (tm_sub (by decide)) (Or.inl rfl)
                  have t706 := J702.up t434
                  have q707 := J702.keep (I426.up h_o0) (by decide) q444
                  have q708 := J702.keep (I426.up h_o0) (by decide) q445
                  have q709 := J702.keep t434 (by decide) q455
                  obtain ⟨s710, e711⟩ : ∃ s9 : p_S, p_nx s435 = s9 := ⟨_, rfl⟩
                  rw [e711] at f705
                  have : s710.1 = 0 := by rw [← e711]; show s435.1 = 0; omega
                  obtain ⟨v712, v713, v714, v715, v716, v717, v718, q719, q720, q721, q722, q723, q724, q725, h726, h727, h728⟩ := f705
                  replace h727 := Im.i h727
                  replace h728 := Im.i h728
                  refine mv_aload_n d_Reader_term_115 rfl rfl ?_
                  obtain ⟨_, b735, -⟩ := I703.1 _ _ t706
                  refine mv_callV (kc' := 0) (ks' := 0) (As := []) (st9 := [.ref o0]) d_Reader_term_116 lV_Reader_186 b735 rfl (tc_Reader_sum_q0_x (d := d) (x9 := x9) (o0 := o0) t706 (p := p) q709 (by omega) (by first | omega | decide) (hK I703) ⟨_, _, _, _, _, _, _, q719, q720, q721, q722, q723, q724, q725, h726, Im.o h727, Im.o h728⟩ (by omega) I703.start) rfl (Nat.le_of_ble_eq_true rfl) (Nat.le_of_ble_eq_true rfl) (Nat.le_of_ble_eq_true rfl) (hst := rfl) (fun b729r M730 n731 b729 => ?_)
                  obtain ⟨T732, J733, v736, rfl, b737, b738, o739, f740, f741⟩ := b729
                  have I734 := I703.call J733 (tm_sub (by decide)) (Or.inl rfl)
                  have t742 := J733.up t706
                  obtain ⟨s743, e744⟩ : ∃ s9 : p_S, p_sum pb pn pa (p_op pb pn pa 0) s710 = s9 := ⟨_, rfl⟩
                  rw [e744] at f740 f741
                  obtain ⟨v745, v746, v747, v748, v749, v750, v751, q752, q753, q754, q755, q756, q757, q758, h759, h760, h761⟩ := f740
                  replace h760 := Im.i h760
                  replace h761 := Im.i h761
                  have := mz_hi v736
                  refine mv_if_neZ (tgt := 124) (a := v736.toInt) d_Reader_term_119 (by decide) rfl (fun b762 => ?_) (fun b762 => ?_)
                  · have q763 := o739 (by omega)
                    refine mv_aload_n d_Reader_term_124 rfl rfl ?_
                    refine mv_iload_n d_Reader_term_125 rfl rfl ?_
                    refine mv_iconst (v := 0) d_Reader_term_126 (by decide) ?_
                    obtain ⟨_, b770, -⟩ := I734.1 _ _ t742
                    refine mv_callV (kc' := 0) (ks' := 0) (As := [.int 5, .int 0]) (st9 := [.int 0, .int 5, .ref o0]) d_Reader_term_127 lV_Reader_203 b770 rfl (tc_Reader_emit (d := (d + 4)) (x9 := x9) (o0 := o0) (x1 := 5) (x2 := 0) t742 I734.start) rfl (Nat.le_of_ble_eq_true rfl) (Nat.le_of_ble_eq_true rfl) (Nat.le_of_ble_eq_true rfl) (hst := rfl) (fun b764r M765 n766 b764 => ?_)
                    obtain ⟨T767, J768, rfl⟩ := b764
                    have I769 := I734.call J768 (tm_sub (by decide)) (Or.inl rfl)
                    have t771 := J768.up t742
                    have q772 := J768.keep (I734.up h_o0) (by decide) q752
                    have q773 := J768.keep (I734.up h_o0) (by decide) q753
                    have q774 := J768.keep (I734.up h_o0) (by decide) q754
                    have q775 := J768.keep (I734.up h_o0) (by decide) q755
                    have q776 := J768.keep (I734.up h_o0) (by decide) q756
                    have q777 := J768.keep (I734.up h_o0) (by decide) q757
                    have q778 := J768.keep (I734.up h_o0) (by decide) q758
                    have q779 := J768.keep t742 (by decide) q763
                    refine mv_iload_n d_Reader_term_130 rfl rfl ?_
                    have := mz_hi i1_18
                    refine mv_if_eqZ (tgt := 141) (a := i1_18.toInt) d_Reader_term_131 (by decide) rfl (fun b780 => ?_) (fun b780 => ?_)
                    · refine mv_iconst (v := 1) d_Reader_term_141 (by decide) ?_
                      exact mv_iret d_Reader_term_142 rfl (by decide) ⟨_, I769, _, rfl, by decide, by decide, fun _ => q779, (by have := (Im.o h40) (by omega); have := yC.d s19.2.2; have := yC.kn s19.2.2; have := (Im.o h453) (by omega); have := yC.d s435.2.2; have := yC.kn s435.2.2; have eT : p_ter pb pn pa 0 (p_oc pb pn pa 0) ps = s743 := (by have hop : p_oc pb pn pa 0 s19 = p_fl pb pn 4 s19 := rfl; have hX := e23.symm.trans (p_lp_stop (show (p_no1 pb pn) s19 = s19 from if_neg (fun h9 => by omega))); unfold p_ter; rw [hX]; unfold p_te1; unfold p_cmp; (try simp only [hop]); (try simp only [e436, e711, e744]); ((repeat' (first | (with_reducible rfl) | split)) <;> (first | ((try simp only [e436, e711, e744]); done) | (exfalso; omega)))); rw [eT]; exact ⟨⟨_, _, _, _, _, _, _, q772, q773, q774, q775, q776, q777, q778, h759, Im.o h760, Im.o h761⟩, (Or.inl ⟨by first | decide | omega, by omega⟩)⟩)⟩
                    · refine mv_aload_n d_Reader_term_134 rfl rfl ?_
                      refine mv_bipush (v := 8) d_Reader_term_135 (by decide) ?_
                      refine mv_iconst (v := 0) d_Reader_term_137 (by decide) ?_
                      obtain ⟨_, b787, -⟩ := I769.1 _ _ t771
                      refine mv_callV (kc' := 0) (ks' := 0) (As := [.int 8, .int 0]) (st9 := [.int 0, .int 8, .ref o0]) d_Reader_term_138 lV_Reader_203 b787 rfl (tc_Reader_emit (d := (d + 4)) (x9 := x9) (o0 := o0) (x1 := 8) (x2 := 0) t771 I769.start) rfl (Nat.le_of_ble_eq_true rfl) (Nat.le_of_ble_eq_true rfl) (Nat.le_of_ble_eq_true rfl) (hst := rfl) (fun b781r M782 n783 b781 => ?_)
                      obtain ⟨T784, J785, rfl⟩ := b781
                      have I786 := I769.call J785 (tm_sub (by decide)) (Or.inl rfl)
                      have t788 := J785.up t771
                      have q789 := J785.keep t771 (by decide) q772
                      have q790 := J785.keep t771 (by decide) q773
                      have q791 := J785.keep t771 (by decide) q774
                      have q792 := J785.keep t771 (by decide) q775
                      have q793 := J785.keep t771 (by decide) q776
                      have q794 := J785.keep t771 (by decide) q777
                      have q795 := J785.keep t771 (by decide) q778
                      have q796 := J785.keep t771 (by decide) q779
                      refine mv_iconst (v := 1) d_Reader_term_141 (by decide) ?_
                      exact mv_iret d_Reader_term_142 rfl (by decide) ⟨_, I786, _, rfl, by decide, by decide, fun _ => q796, (by have := (Im.o h40) (by omega); have := yC.d s19.2.2; have := yC.kn s19.2.2; have := (Im.o h453) (by omega); have := yC.d s435.2.2; have := yC.kn s435.2.2; have eT : p_ter pb pn pa 0 (p_oc pb pn pa 0) ps = s743 := (by have hop : p_oc pb pn pa 0 s19 = p_fl pb pn 4 s19 := rfl; have hX := e23.symm.trans (p_lp_stop (show (p_no1 pb pn) s19 = s19 from if_neg (fun h9 => by omega))); unfold p_ter; rw [hX]; unfold p_te1; unfold p_cmp; (try simp only [hop]); (try simp only [e436, e711, e744]); ((repeat' (first | (with_reducible rfl) | split)) <;> (first | ((try simp only [e436, e711, e744]); done) | (exfalso; omega)))); rw [eT]; exact ⟨⟨_, _, _, _, _, _, _, q789, q790, q791, q792, q793, q794, q795, h759, Im.o h760, Im.o h761⟩, (Or.inl ⟨by first | decide | omega, by omega⟩)⟩)⟩
                  · refine mv_iconst (v := 0) d_Reader_term_122 (by decide) ?_
                    exact mv_iret d_Reader_term_123 rfl (by decide) ⟨_, I734, _, rfl, by decide, by decide, fun h => absurd h (by decide), (by have := (Im.o h40) (by omega); have := yC.d s19.2.2; have := yC.kn s19.2.2; have := (Im.o h453) (by omega); have := yC.d s435.2.2; have := yC.kn s435.2.2; have hb : s743.1 ≠ 0 := (by omega); have z1 : ∀ c, p_sg pb pn c s743 = s743 := (fun c => p_sg_Z s743 hb); have z2 : ∀ c, p_wd pb pn c s743 = s743 := (fun c => p_wd_Z s743 hb); have z3 : ∀ op, p_sum pb pn pa op s743 = s743 := (fun op => p_sum_Z s743 hb); have z4 : ∀ r oc, p_con pb pn pa r oc s743 = s743 := (fun r oc => p_con_Z s743 hb); have z5 : p_prt pb pn s743 = s743 := p_prt_Z s743 hb; have eT : p_ter pb pn pa 0 (p_oc pb pn pa 0) ps = s743 := (by have hop : p_oc pb pn pa 0 s19 = p_fl pb pn 4 s19 := rfl; have hX := e23.symm.trans (p_lp_stop (show (p_no1 pb pn) s19 = s19 from if_neg (fun h9 => by omega))); unfold p_ter; rw [hX]; unfold p_te1; unfold p_cmp; (try simp only [hop]); (try simp only [e436, e711, e744, z1, z2, z3, z4, z5]); ((repeat' (first | (with_reducible rfl) | split)) <;> (first | ((try simp only [e436, e711, e744, z1, z2, z3, z4, z5]); done) | (exfalso; omega)))); rw [eT]; exact ⟨⟨_, _, _, _, _, _, _, q752, q753, q754, q755, q756, q757, q758, h759, Im.o h760, Im.o h761⟩, (Or.inr ⟨by first | decide | omega, by omega⟩)⟩)⟩
            · refine mv_iconst (v := 0) d_Reader_term_93 (by decide) ?_
              exact mv_iret d_Reader_term_94 rfl (by decide) ⟨_, I426, _, rfl, by decide, by decide, fun h => absurd h (by decide), (by have := (Im.o h40) (by omega); have := yC.d s19.2.2; have := yC.kn s19.2.2; have hb : s435.1 ≠ 0 := (by omega); have z1 : ∀ c, p_sg pb pn c s435 = s435 := (fun c => p_sg_Z s435 hb); have z2 : ∀ c, p_wd pb pn c s435 = s435 := (fun c => p_wd_Z s435 hb); have z3 : ∀ op, p_sum pb pn pa op s435 = s435 := (fun op => p_sum_Z s435 hb); have z4 : ∀ r oc, p_con pb pn pa r oc s435 = s435 := (fun r oc => p_con_Z s435 hb); have z5 : p_prt pb pn s435 = s435 := p_prt_Z s435 hb; have eT : p_ter pb pn pa 0 (p_oc pb pn pa 0) ps = s435 := (by have hop : p_oc pb pn pa 0 s19 = p_fl pb pn 4 s19 := rfl; have hX := e23.symm.trans (p_lp_stop (show (p_no1 pb pn) s19 = s19 from if_neg (fun h9 => by omega))); unfold p_ter; rw [hX]; unfold p_te1; unfold p_cmp; (try simp only [hop]); (try simp only [e436, z1, z2, z3, z4, z5]); ((repeat' (first | (with_reducible rfl) | split)) <;> (first | ((try simp only [e436, z1, z2, z3, z4, z5]); done) | (exfalso; omega)))); rw [eT]; exact ⟨⟨_, _, _, _, _, _, _, q444, q445, q446, q447, q448, q449, q450, h451, Im.o h452, Im.o h453⟩, (Or.inr ⟨by first | decide | omega, by omega⟩)⟩)⟩
          · refine mv_iconst (v := 1) d_Reader_isSign_16 (by decide) ?_
            refine mv_goto (tgt := 21) d_Reader_isSign_17 (by decide) ?_
            refine mv_iret d_Reader_isSign_21 rfl (by decide) ?_
            refine mv_if_eq_f (tgt := 86) d_Reader_term_46 (by decide) (by decide) ?_
            refine mv_aload_n d_Reader_term_49 rfl rfl ?_
            obtain ⟨_, b803, -⟩ := I_18.1 _ _ h_q0_18
            refine mv_callV (kc' := 0) (ks' := 0) (As := []) (st9 := [.ref o0]) d_Reader_term_50 lV_Reader_212 b803 rfl (tc_Reader_openBracket_q0_x (d := (d + 3)) (x9 := x9) (o0 := o0) h_q0_18 (p := p) kp0_18 (by omega) (by first | omega | decide) (hK I_18) ⟨_, _, _, _, _, _, _, q31, q32, q33, q34, q35, q36, q37, h38, Im.o h39, Im.o h40⟩ (by omega) (by have := (Im.o h40) (by omega); have := yC.d s19.2.2; have := yC.kn s19.2.2; show p_ki pb pn s19.2.2 ≠ 0; omega) I_18.start) rfl (Nat.le_of_ble_eq_true rfl) (Nat.le_of_ble_eq_true rfl) (Nat.le_of_ble_eq_true rfl) (hst := rfl) (fun b797r M798 n799 b797 => ?_)
            obtain ⟨T800, J801, v804, rfl, b805, b806, o807, f808, f809⟩ := b797
            have I802 := I_18.call J801 (tm_sub (by decide)) (Or.inl rfl)
            have t810 := J801.up h_q0_18
            obtain ⟨s811, e812⟩ : ∃ s9 : p_S, p_fl pb pn 4 s19 = s9 := ⟨_, rfl⟩
            rw [e812] at f808 f809
            obtain ⟨v813, v814, v815, v816, v817, v818, v819, q820, q821, q822, q823, q824, q825, q826, h827, h828, h829⟩ := f808
            replace h828 := Im.i h828
            replace h829 := Im.i h829
            have := mz_hi v804
            refine mv_if_eqZ (tgt := 63) (a := v804.toInt) d_Reader_term_53 (by decide) rfl (fun b830 => ?_) (fun b830 => ?_)
            · refine mv_iconst (v := 0) d_Reader_term_63 (by decide) ?_
              exact mv_iret d_Reader_term_64 rfl (by decide) ⟨_, I802, _, rfl, by decide, by decide, fun h => absurd h (by decide), (by have := (Im.o h40) (by omega); have := yC.d s19.2.2; have := yC.kn s19.2.2; have hb : s811.1 ≠ 0 := (by omega); have z1 : ∀ c, p_sg pb pn c s811 = s811 := (fun c => p_sg_Z s811 hb); have z2 : ∀ c, p_wd pb pn c s811 = s811 := (fun c => p_wd_Z s811 hb); have z3 : ∀ op, p_sum pb pn pa op s811 = s811 := (fun op => p_sum_Z s811 hb); have z4 : ∀ r oc, p_con pb pn pa r oc s811 = s811 := (fun r oc => p_con_Z s811 hb); have z5 : p_prt pb pn s811 = s811 := p_prt_Z s811 hb; have eT : p_ter pb pn pa 0 (p_oc pb pn pa 0) ps = s811 := (by have hop : p_oc pb pn pa 0 s19 = p_fl pb pn 4 s19 := rfl; have hX := e23.symm.trans (p_lp_stop (show (p_no1 pb pn) s19 = s19 from if_neg (fun h9 => by omega))); unfold p_ter; rw [hX]; unfold p_te1; unfold p_cmp; (try simp only [hop]); (try simp only [e812, z1, z2, z3, z4, z5]); ((repeat' (first | (with_reducible rfl) | split)) <;> (first | ((try simp only [e812, z1, z2, z3, z4, z5]); done) | (exfalso; omega)))); rw [eT]; exact ⟨⟨_, _, _, _, _, _, _, q820, q821, q822, q823, q824, q825, q826, h827, Im.o h828, Im.o h829⟩, (Or.inr ⟨by first | decide | omega, by omega⟩)⟩)⟩
            · have := (o807 (by omega)).1
              exfalso
              omega
      · refine mv_aload_n d_Reader_term_11 rfl rfl ?_
        refine mv_bipush (v := 30) d_Reader_term_12 (by decide) ?_
        obtain ⟨_, b832, -⟩ := I_18.1 _ _ h_q0_18
        refine mv_callV (kc1 := 0) (ks1 := 0) (kc' := 0) (ks' := 0) (As := [.int 30]) (st9 := [.int 30, .ref o0]) d_Reader_term_14 lV_Reader_52 b832 rfl (mj_enter (by decide) (Nat.le_of_ble_eq_true rfl) ?_) rfl (Nat.le_of_ble_eq_true rfl) (Nat.le_of_ble_eq_true rfl) (Nat.le_of_ble_eq_true rfl) (hst := rfl) (fun _ _ _ h => h)
        refine mv_aload_n d_Reader_isWord_0 rfl rfl ?_
        refine tr_getK (k := 10) q34 d_Reader_isWord_1 f_Reader_41_9 ?_
        refine mv_iconst (v := 1) d_Reader_isWord_4 (by decide) ?_
        have := mz_hi v27
        refine mv_icmp_neZ (tgt := 20) (a := v27.toInt) (b := 1) d_Reader_isWord_5 (by decide) rfl (by decide) (fun b833 => ?_) (fun b833 => ?_)
        · refine mv_iconst (v := 0) d_Reader_isWord_20 (by decide) ?_
          refine mv_iret d_Reader_isWord_21 rfl (by decide) ?_
          refine mv_if_eq_t (tgt := 40) d_Reader_term_17 (by decide) (by decide) ?_
          refine mv_aload_n d_Reader_term_40 rfl rfl ?_
          refine mv_bipush (v := 91) d_Reader_term_41 (by decide) ?_
          obtain ⟨_, b834, -⟩ := I_18.1 _ _ h_q0_18
          refine mv_callV (kc1 := 0) (ks1 := 0) (kc' := 0) (ks' := 0) (As := [.int 91]) (st9 := [.int 91, .ref o0]) d_Reader_term_43 lV_Reader_209 b834 rfl (mj_enter (by decide) (Nat.le_of_ble_eq_true rfl) ?_) rfl (Nat.le_of_ble_eq_true rfl) (Nat.le_of_ble_eq_true rfl) (Nat.le_of_ble_eq_true rfl) (hst := rfl) (fun _ _ _ h => h)
          refine mv_aload_n d_Reader_isSign_0 rfl rfl ?_
          refine tr_getK (k := 10) q34 d_Reader_isSign_1 f_Reader_41_9 ?_
          refine mv_iconst (v := 3) d_Reader_isSign_4 (by decide) ?_
          have := mz_hi v27
          refine mv_icmp_neZ (tgt := 20) (a := v27.toInt) (b := 3) d_Reader_isSign_5 (by decide) rfl (by decide) (fun b835 => ?_) (fun b835 => ?_)
          · refine mv_iconst (v := 0) d_Reader_isSign_20 (by decide) ?_
            refine mv_iret d_Reader_isSign_21 rfl (by decide) ?_
            refine mv_if_eq_t (tgt := 86) d_Reader_term_46 (by decide) (by decide) ?_
            refine mv_aload_n d_Reader_term_86 rfl rfl ?_
            obtain ⟨_, b842, -⟩ := I_18.1 _ _ h_q0_18
            refine mv_callV (kc' := 0) (ks' := 0) (As := []) (st9 := [.ref o0]) d_Reader_term_87 lV_Reader_186 b842 rfl (tc_Reader_sum_q0_x (d := d) (x9 := x9) (o0 := o0) h_q0_18 (p := p) kp0_18 (by omega) (by first | omega | decide) (hK I_18) ⟨_, _, _, _, _, _, _, q31, q32, q33, q34, q35, q36, q37, h38, Im.o h39, Im.o h40⟩ (by omega) I_18.start) rfl (Nat.le_of_ble_eq_true rfl) (Nat.le_of_ble_eq_true rfl) (Nat.le_of_ble_eq_true rfl) (hst := rfl) (fun b836r M837 n838 b836 => ?_)
            obtain ⟨T839, J840, v843, rfl, b844, b845, o846, f847, f848⟩ := b836
            have I841 := I_18.call J840 (tm_sub (by decide)) (Or.inl rfl)
            have t849 := J840.up h_q0_18
            obtain ⟨s850, e851⟩ : ∃ s9 : p_S, p_sum pb pn pa (p_op pb pn pa 0) s19 = s9 := ⟨_, rfl⟩
            rw [e851] at f847 f848
            obtain ⟨v852, v853, v854, v855, v856, v857, v858, q859, q860, q861, q862, q863, q864, q865, h866, h867, h868⟩ := f847
            replace h867 := Im.i h867
            replace h868 := Im.i h868
            have := mz_hi v843
            refine mv_if_neZ (tgt := 95) (a := v843.toInt) d_Reader_term_90 (by decide) rfl (fun b869 => ?_) (fun b869 => ?_)
            · have q870 := o846 (by omega)
              refine mv_aload_n d_Reader_term_95 rfl rfl ?_
              obtain ⟨_, b871, -⟩ := I841.1 _ _ t849
              refine mv_callV (kc1 := 0) (ks1 := 0) (kc' := 0) (ks' := 0) (As := []) (st9 := [.ref o0]) d_Reader_term_96 lV_Reader_215 b871 rfl (mj_enter (by decide) (Nat.le_of_ble_eq_true rfl) ?_) rfl (Nat.le_of_ble_eq_true rfl) (Nat.le_of_ble_eq_true rfl) (Nat.le_of_ble_eq_true rfl) (hst := rfl) (fun _ _ _ h => h)
              refine mv_aload_n d_Reader_comparisonHere_0 rfl rfl ?_
              refine mv_bipush (v := 60) d_Reader_comparisonHere_1 (by decide) ?_
              obtain ⟨_, b872, -⟩ := I841.1 _ _ t849
              refine mv_callV (kc1 := 0) (ks1 := 0) (kc' := 0) (ks' := 0) (As := [.int 60]) (st9 := [.int 60, .ref o0]) d_Reader_comparisonHere_3 lV_Reader_209 b872 rfl (mj_enter (by decide) (Nat.le_of_ble_eq_true rfl) ?_) rfl (Nat.le_of_ble_eq_true rfl) (Nat.le_of_ble_eq_true rfl) (Nat.le_of_ble_eq_true rfl) (hst := rfl) (fun _ _ _ h => h)
              refine mv_aload_n d_Reader_isSign_0 rfl rfl ?_
              refine tr_getK (k := 10) q862 d_Reader_isSign_1 f_Reader_41_9 ?_
              refine mv_iconst (v := 3) d_Reader_isSign_4 (by decide) ?_
              have := mz_hi v855
              refine mv_icmp_neZ (tgt := 20) (a := v855.toInt) (b := 3) d_Reader_isSign_5 (by decide) rfl (by decide) (fun b873 => ?_) (fun b873 => ?_)
              · refine mv_iconst (v := 0) d_Reader_isSign_20 (by decide) ?_
                refine mv_iret d_Reader_isSign_21 rfl (by decide) ?_
                refine mv_if_eq_t (tgt := 11) d_Reader_comparisonHere_6 (by decide) (by decide) ?_
                refine mv_aload_n d_Reader_comparisonHere_11 rfl rfl ?_
                refine mv_bipush (v := 62) d_Reader_comparisonHere_12 (by decide) ?_
                obtain ⟨_, b874, -⟩ := I841.1 _ _ t849
                refine mv_callV (kc1 := 0) (ks1 := 0) (kc' := 0) (ks' := 0) (As := [.int 62]) (st9 := [.int 62, .ref o0]) d_Reader_comparisonHere_14 lV_Reader_209 b874 rfl (mj_enter (by decide) (Nat.le_of_ble_eq_true rfl) ?_) rfl (Nat.le_of_ble_eq_true rfl) (Nat.le_of_ble_eq_true rfl) (Nat.le_of_ble_eq_true rfl) (hst := rfl) (fun _ _ _ h => h)
                refine mv_aload_n d_Reader_isSign_0 rfl rfl ?_
                refine tr_getK (k := 10) q862 d_Reader_isSign_1 f_Reader_41_9 ?_
                refine mv_iconst (v := 3) d_Reader_isSign_4 (by decide) ?_
                have := mz_hi v855
                refine mv_icmp_neZ (tgt := 20) (a := v855.toInt) (b := 3) d_Reader_isSign_5 (by decide) rfl (by decide) (fun b875 => ?_) (fun b875 => absurd b875 (by omega))
                refine mv_iconst (v := 0) d_Reader_isSign_20 (by decide) ?_
                refine mv_iret d_Reader_isSign_21 rfl (by decide) ?_
                refine mv_if_eq_t (tgt := 23) d_Reader_comparisonHere_17 (by decide) (by decide) ?_
                refine mv_aload_n d_Reader_comparisonHere_23 rfl rfl ?_
                refine mv_bipush (v := 61) d_Reader_comparisonHere_24 (by decide) ?_
                obtain ⟨_, b876, -⟩ := I841.1 _ _ t849
                refine mv_callV (kc1 := 0) (ks1 := 0) (kc' := 0) (ks' := 0) (As := [.int 61]) (st9 := [.int 61, .ref o0]) d_Reader_comparisonHere_26 lV_Reader_209 b876 rfl (mj_enter (by decide) (Nat.le_of_ble_eq_true rfl) ?_) rfl (Nat.le_of_ble_eq_true rfl) (Nat.le_of_ble_eq_true rfl) (Nat.le_of_ble_eq_true rfl) (hst := rfl) (fun _ _ _ h => h)
                refine mv_aload_n d_Reader_isSign_0 rfl rfl ?_
                refine tr_getK (k := 10) q862 d_Reader_isSign_1 f_Reader_41_9 ?_
                refine mv_iconst (v := 3) d_Reader_isSign_4 (by decide) ?_
                have := mz_hi v855
                refine mv_icmp_neZ (tgt := 20) (a := v855.toInt) (b := 3) d_Reader_isSign_5 (by decide) rfl (by decide) (fun b877 => ?_) (fun b877 => absurd b877 (by omega))
                refine mv_iconst (v := 0) d_Reader_isSign_20 (by decide) ?_
                refine mv_iret d_Reader_isSign_21 rfl (by decide) ?_
                refine mv_if_eq_t (tgt := 37) d_Reader_comparisonHere_29 (by decide) (by decide) ?_
                refine mv_iconst (v := (-1)) d_Reader_comparisonHere_37 (by decide) ?_
                refine mv_iret d_Reader_comparisonHere_38 rfl (by first | rfl | decide) ?_
                refine mv_istore_n (lv' := [(2, .int (-1)), (1, .int i1_18), (0, .ref o0)]) d_Reader_term_99 rfl (by decide) rfl ?_
                refine mv_iload_n d_Reader_term_100 rfl rfl ?_
                refine mv_iconst (v := (-1)) d_Reader_term_101 (by decide) ?_
                refine mv_icmp_ne_f (tgt := 111) d_Reader_term_102 (by decide) (by decide) ?_
                refine mv_aload_n d_Reader_term_105 rfl rfl ?_
                refine mv_iconst (v := 1) d_Reader_term_106 (by decide) ?_
                obtain ⟨_, b878, -⟩ := I841.1 _ _ t849
                refine mv_callV (kc1 := 0) (ks1 := 0) (kc' := 0) (ks' := 0) (As := [.int 1]) (st9 := [.int 1, .ref o0]) d_Reader_term_107 lV_Reader_56 b878 rfl (mj_enter (by decide) (Nat.le_of_ble_eq_true rfl) ?_) rfl (Nat.le_of_ble_eq_true rfl) (Nat.le_of_ble_eq_true rfl) (Nat.le_of_ble_eq_true rfl) (hst := rfl) (fun _ _ _ h => h)
                refine mv_aload_n d_Reader_refuse_0 rfl rfl ?_
                refine mv_iload_n d_Reader_refuse_1 rfl rfl ?_
                refine tr_putK tm_okF I841 t849 (k := 1) rfl ⟨_, rfl⟩ (Or.inl (by decide)) d_Reader_refuse_2 p_Reader_70_9 rfl rfl (fun M879 I880 q881 K882 => ?_)
                refine mv_aload_n d_Reader_refuse_5 rfl rfl ?_
                refine mv_aload_n d_Reader_refuse_6 rfl rfl ?_
                refine tr_getK (k := 11) (K882 _ 9 11 _ rfl q863) d_Reader_refuse_7 f_Reader_175_9 ?_
                refine tr_putK tm_okF I880 t849 (k := 2) rfl ⟨_, rfl⟩ (Or.inl (by decide)) d_Reader_refuse_10 p_Reader_11_9 rfl rfl (fun M883 I884 q885 K886 => ?_)
                refine mv_iconst (v := 0) d_Reader_refuse_13 (by decide) ?_
                obtain ⟨s887, e888⟩ : ∃ s9 : p_S, p_fl pb pn 1 s850 = s9 := ⟨_, rfl⟩
                have h889 := q_fl e888 (by omega) (by decide)
                have h890 : (1 : Int32).toInt = s887.1 := (by have e9 : (1 : Int32).toInt = 1 := (by decide); omega)
                have h891 : Im (s887.1 ≠ 0 → v856.toInt = (s887.2.1 : Int)) := Im.i (fun _ => by have := (Im.o h868) (by omega); omega)
                have h892 : Im (s887.1 = 0 → v854.toInt = (s887.2.2 : Int) ∧ v855.toInt = p_ki pb pn s887.2.2 ∧ v856.toInt = (p_st pb pn s887.2.2 : Int) ∧ v857.toInt = (p_sp pb pn s887.2.2 : Int) ∧ v858.toInt = p_va pb pn s887.2.2 ∧ v856.toInt = -1) := Im.i (fun z9 => absurd z9 h889.2.2)
                refine mv_iret d_Reader_refuse_14 rfl (by decide) ?_
                exact mv_iret d_Reader_term_110 rfl (by decide) ⟨_, I884, _, rfl, by decide, by decide, fun h => absurd h (by decide), (by have := (Im.o h40) (by omega); have := yC.d s19.2.2; have := yC.kn s19.2.2; have := (Im.o h868) (by omega); have := yC.d s850.2.2; have := yC.kn s850.2.2; have hb : s887.1 ≠ 0 := (by omega); have z1 : ∀ c, p_sg pb pn c s887 = s887 := (fun c => p_sg_Z s887 hb); have z2 : ∀ c, p_wd pb pn c s887 = s887 := (fun c => p_wd_Z s887 hb); have z3 : ∀ op, p_sum pb pn pa op s887 = s887 := (fun op => p_sum_Z s887 hb); have z4 : ∀ r oc, p_con pb pn pa r oc s887 = s887 := (fun r oc => p_con_Z s887 hb); have z5 : p_prt pb pn s887 = s887 := p_prt_Z s887 hb; have eT : p_ter pb pn pa 0 (p_oc pb pn pa 0) ps = s887 := (by have hop : p_oc pb pn pa 0 s19 = p_fl pb pn 4 s19 := rfl; have hX := e23.symm.trans (p_lp_stop (show (p_no1 pb pn) s19 = s19 from if_neg (fun h9 => by omega))); unfold p_ter; rw [hX]; unfold p_te1; unfold p_cmp; (try simp only [hop]); (try simp only [e851, e888, z1, z2, z3, z4, z5]); ((repeat' (first | (with_reducible rfl) | split)) <;> (first | ((try simp only [e851, e888, z1, z2, z3, z4, z5]); done) | (exfalso; omega)))); rw [eT]; exact ⟨⟨_, _, _, _, _, _, _, (K886 _ 9 1 _ rfl q881), q885, (K886 _ 9 9 _ rfl (K882 _ 9 9 _ rfl q861)), (K886 _ 9 10 _ rfl (K882 _ 9 10 _ rfl q862)), (K886 _ 9 11 _ rfl (K882 _ 9 11 _ rfl q863)), (K886 _ 9 12 _ rfl (K882 _ 9 12 _ rfl q864)), (K886 _ 9 13 _ rfl (K882 _ 9 13 _ rfl q865)), h890, Im.o h891, Im.o h892⟩, (Or.inr ⟨by first | decide | omega, by omega⟩)⟩)⟩
              · refine mv_aload_n d_Reader_isSign_8 rfl rfl ?_
                refine tr_getK (k := 13) q865 d_Reader_isSign_9 f_Reader_241_9 ?_
                refine mv_iload_n d_Reader_isSign_12 rfl rfl ?_
                have := mz_hi v858
                refine mv_icmp_neZ (tgt := 20) (a := v858.toInt) (b := 60) d_Reader_isSign_13 (by decide) rfl (by decide) (fun b893 => ?_) (fun b893 => ?_)
                · refine mv_iconst (v := 0) d_Reader_isSign_20 (by decide) ?_
                  refine mv_iret d_Reader_isSign_21 rfl (by decide) ?_
                  refine mv_if_eq_t (tgt := 11) d_Reader_comparisonHere_6 (by decide) (by decide) ?_
                  refine mv_aload_n d_Reader_comparisonHere_11 rfl rfl ?_
                  refine mv_bipush (v := 62) d_Reader_comparisonHere_12 (by decide) ?_
                  obtain ⟨_, b894, -⟩ := I841.1 _ _ t849
                  refine mv_callV (kc1 := 0) (ks1 := 0) (kc' := 0) (ks' := 0) (As := [.int 62]) (st9 := [.int 62, .ref o0]) d_Reader_comparisonHere_14 lV_Reader_209 b894 rfl (mj_enter (by decide) (Nat.le_of_ble_eq_true rfl) ?_) rfl (Nat.le_of_ble_eq_true rfl) (Nat.le_of_ble_eq_true rfl) (Nat.le_of_ble_eq_true rfl) (hst := rfl) (fun _ _ _ h => h)
                  refine mv_aload_n d_Reader_isSign_0 rfl rfl ?_
                  refine tr_getK (k := 10) q862 d_Reader_isSign_1 f_Reader_41_9 ?_
                  refine mv_iconst (v := 3) d_Reader_isSign_4 (by decide) ?_
                  have := mz_hi v855
                  refine mv_icmp_neZ (tgt := 20) (a := v855.toInt) (b := 3) d_Reader_isSign_5 (by decide) rfl (by decide) (fun b895 => absurd b895 (by omega)) (fun b895 => ?_)
                  refine mv_aload_n d_Reader_isSign_8 rfl rfl ?_
                  refine tr_getK (k := 13) q865 d_Reader_isSign_9 f_Reader_241_9 ?_
                  refine mv_iload_n d_Reader_isSign_12 rfl rfl ?_
                  have := mz_hi v858
                  refine mv_icmp_neZ (tgt := 20) (a := v858.toInt) (b := 62) d_Reader_isSign_13 (by decide) rfl (by decide) (fun b896 => ?_) (fun b896 => ?_)
                  · refine mv_iconst (v := 0) d_Reader_isSign_20 (by decide) ?_
                    refine mv_iret d_Reader_isSign_21 rfl (by decide) ?_
                    refine mv_if_eq_t (tgt := 23) d_Reader_comparisonHere_17 (by decide) (by decide) ?_
                    refine mv_aload_n d_Reader_comparisonHere_23 rfl rfl ?_
                    refine mv_bipush (v := 61) d_Reader_comparisonHere_24 (by decide) ?_
                    obtain ⟨_, b897, -⟩ := I841.1 _ _ t849
                    refine mv_callV (kc1 := 0) (ks1 := 0) (kc' := 0) (ks' := 0) (As := [.int 61]) (st9 := [.int 61, .ref o0]) d_Reader_comparisonHere_26 lV_Reader_209 b897 rfl (mj_enter (by decide) (Nat.le_of_ble_eq_true rfl) ?_) rfl (Nat.le_of_ble_eq_true rfl) (Nat.le_of_ble_eq_true rfl) (Nat.le_of_ble_eq_true rfl) (hst := rfl) (fun _ _ _ h => h)
                    refine mv_aload_n d_Reader_isSign_0 rfl rfl ?_
                    refine tr_getK (k := 10) q862 d_Reader_isSign_1 f_Reader_41_9 ?_
                    refine mv_iconst (v := 3) d_Reader_isSign_4 (by decide) ?_
                    have := mz_hi v855
                    refine mv_icmp_neZ (tgt := 20) (a := v855.toInt) (b := 3) d_Reader_isSign_5 (by decide) rfl (by decide) (fun b898 => absurd b898 (by omega)) (fun b898 => ?_)
                    refine mv_aload_n d_Reader_isSign_8 rfl rfl ?_
                    refine tr_getK (k := 13) q865 d_Reader_isSign_9 f_Reader_241_9 ?_
                    refine mv_iload_n d_Reader_isSign_12 rfl rfl ?_
                    have := mz_hi v858
                    refine mv_icmp_neZ (tgt := 20) (a := v858.toInt) (b := 61) d_Reader_isSign_13 (by decide) rfl (by decide) (fun b899 => ?_) (fun b899 => ?_)
                    · refine mv_iconst (v := 0) d_Reader_isSign_20 (by decide) ?_
                      refine mv_iret d_Reader_isSign_21 rfl (by decide) ?_
                      refine mv_if_eq_t (tgt := 37) d_Reader_comparisonHere_29 (by decide) (by decide) ?_
                      refine mv_iconst (v := (-1)) d_Reader_comparisonHere_37 (by decide) ?_
                      refine mv_iret d_Reader_comparisonHere_38 rfl (by first | rfl | decide) ?_
                      refine mv_istore_n (lv' := [(2, .int (-1)), (1, .int i1_18), (0, .ref o0)]) d_Reader_term_99 rfl (by decide) rfl ?_
                      refine mv_iload_n d_Reader_term_100 rfl rfl ?_
                      refine mv_iconst (v := (-1)) d_Reader_term_101 (by decide) ?_
                      refine mv_icmp_ne_f (tgt := 111) d_Reader_term_102 (by decide) (by decide) ?_
                      refine mv_aload_n d_Reader_term_105 rfl rfl ?_
                      refine mv_iconst (v := 1) d_Reader_term_106 (by decide) ?_
                      obtain ⟨_, b900, -⟩ := I841.1 _ _ t849
                      refine mv_callV (kc1 := 0) (ks1 := 0) (kc' := 0) (ks' := 0) (As := [.int 1]) (st9 := [.int 1, .ref o0]) d_Reader_term_107 lV_Reader_56 b900 rfl (mj_enter (by decide) (Nat.le_of_ble_eq_true rfl) ?_) rfl (Nat.le_of_ble_eq_true rfl) (Nat.le_of_ble_eq_true rfl) (Nat.le_of_ble_eq_true rfl) (hst := rfl) (fun _ _ _ h => h)
                      refine mv_aload_n d_Reader_refuse_0 rfl rfl ?_
                      refine mv_iload_n d_Reader_refuse_1 rfl rfl ?_
                      refine tr_putK tm_okF I841 t849 (k := 1) rfl ⟨_, rfl⟩ (Or.inl (by decide)) d_Reader_refuse_2 p_Reader_70_9 rfl rfl (fun M901 I902 q903 K904 => ?_)
                      refine mv_aload_n d_Reader_refuse_5 rfl rfl ?_
                      refine mv_aload_n d_Reader_refuse_6 rfl rfl ?_
                      refine tr_getK (k := 11) (K904 _ 9 11 _ rfl q863) d_Reader_refuse_7 f_Reader_175_9 ?_
                      refine tr_putK tm_okF I902 t849 (k := 2) rfl ⟨_, rfl⟩ (Or.inl (by decide)) d_Reader_refuse_10 p_Reader_11_9 rfl rfl (fun M905 I906 q907 K908 => ?_)
                      refine mv_iconst (v := 0) d_Reader_refuse_13 (by decide) ?_
                      obtain ⟨s909, e910⟩ : ∃ s9 : p_S, p_fl pb pn 1 s850 = s9 := ⟨_, rfl⟩
                      have h911 := q_fl e910 (by omega) (by decide)
                      have h912 : (1 : Int32).toInt = s909.1 := (by have e9 : (1 : Int32).toInt = 1 := (by decide); omega)
                      have h913 : Im (s909.1 ≠ 0 → v856.toInt = (s909.2.1 : Int)) := Im.i (fun _ => by have := (Im.o h868) (by omega); omega)
                      have h914 : Im (s909.1 = 0 → v854.toInt = (s909.2.2 : Int) ∧ v855.toInt = p_ki pb pn s909.2.2 ∧ v856.toInt = (p_st pb pn s909.2.2 : Int) ∧ v857.toInt = (p_sp pb pn s909.2.2 : Int) ∧ v858.toInt = p_va pb pn s909.2.2 ∧ v856.toInt = -1) := Im.i (fun z9 => absurd z9 h911.2.2)
                      refine mv_iret d_Reader_refuse_14 rfl (by decide) ?_
                      exact mv_iret d_Reader_term_110 rfl (by decide) ⟨_, I906, _, rfl, by decide, by decide, fun h => absurd h (by decide), (by have := (Im.o h40) (by omega); have := yC.d s19.2.2; have := yC.kn s19.2.2; have := (Im.o h868) (by omega); have := yC.d s850.2.2; have := yC.kn s850.2.2; have hb : s909.1 ≠ 0 := (by omega); have z1 : ∀ c, p_sg pb pn c s909 = s909 := (fun c => p_sg_Z s909 hb); have z2 : ∀ c, p_wd pb pn c s909 = s909 := (fun c => p_wd_Z s909 hb); have z3 : ∀ op, p_sum pb pn pa op s909 = s909 := (fun op => p_sum_Z s909 hb); have z4 : ∀ r oc, p_con pb pn pa r oc s909 = s909 := (fun r oc => p_con_Z s909 hb); have z5 : p_prt pb pn s909 = s909 := p_prt_Z s909 hb; have eT : p_ter pb pn pa 0 (p_oc pb pn pa 0) ps = s909 := (by have hop : p_oc pb pn pa 0 s19 = p_fl pb pn 4 s19 := rfl; have hX := e23.symm.trans (p_lp_stop (show (p_no1 pb pn) s19 = s19 from if_neg (fun h9 => by omega))); unfold p_ter; rw [hX]; unfold p_te1; unfold p_cmp; (try simp only [hop]); (try simp only [e851, e910, z1, z2, z3, z4, z5]); ((repeat' (first | (with_reducible rfl) | split)) <;> (first | ((try simp only [e851, e910, z1, z2, z3, z4, z5]); done) | (exfalso; omega)))); rw [eT]; exact ⟨⟨_, _, _, _, _, _, _, (K908 _ 9 1 _ rfl q903), q907, (K908 _ 9 9 _ rfl (K904 _ 9 9 _ rfl q861)), (K908 _ 9 10 _ rfl (K904 _ 9 10 _ rfl q862)), (K908 _ 9 11 _ rfl (K904 _ 9 11 _ rfl q863)), (K908 _ 9 12 _ rfl (K904 _ 9 12 _ rfl q864)), (K908 _ 9 13 _ rfl (K904 _ 9 13 _ rfl q865)), h912, Im.o h913, Im.o h914⟩, (Or.inr ⟨by first | decide | omega, by omega⟩)⟩)⟩
                    · refine mv_iconst (v := 1) d_Reader_isSign_16 (by decide) ?_
                      refine mv_goto (tgt := 21) d_Reader_isSign_17 (by decide) ?_
                      refine mv_iret d_Reader_isSign_21 rfl (by decide) ?_
                      refine mv_if_eq_f (tgt := 37) d_Reader_comparisonHere_29 (by decide) (by decide) ?_
                      refine mv_bipush (v := 7) d_Reader_comparisonHere_32 (by decide) ?_
                      refine mv_goto (tgt := 38) d_Reader_comparisonHere_34 (by decide) ?_
                      refine mv_iret d_Reader_comparisonHere_38 rfl (by first | rfl | decide) ?_
                      refine mv_istore_n (lv' := [(2, .int 7), (1, .int i1_18), (0, .ref o0)]) d_Reader_term_99 rfl (by decide) rfl ?_
                      refine mv_iload_n d_Reader_term_100 rfl rfl ?_
                      refine mv_iconst (v := (-1)) d_Reader_term_101 (by decide) ?_
                      refine mv_icmp_ne_t (tgt := 111) d_Reader_term_102 (by decide) (by decide) ?_
                      refine mv_aload_n d_Reader_term_111 rfl rfl ?_
                      obtain ⟨_, b921, -⟩ := I841.1 _ _ t849
                      refine mv_callV (kc' := 0) (ks' := 0) (As := []) (st9 := [.ref o0]) d_Reader_term_112 lV_Reader_82 b921 rfl (tc_Reader_advance_x (d := (d + 4)) (x9 := x9) (o0 := o0) t849 (hK I841) (qS.a (show qS M837 o0 pb pn s850 from ⟨_, _, _, _, _, _, _, q859, q860, q861, q862, q863, q864, q865, h866, Im.o h867, Im.o h868⟩)) (by have := (Im.o h40) (by omega); have := yC.d s19.2.2; have := yC.kn s19.2.2; have := (Im.o h868) (by omega); have := yC.d s850.2.2; have := yC.kn s850.2.2; show s850.2.2 + 1 ≤ 401; omega) I841.start) rfl (Nat.le_of_ble_eq_true rfl) (Nat.le_of_ble_eq_true rfl) (Nat.le_of_ble_eq_true rfl) (hst := rfl) (fun b915r M916 n917 b915 => ?_)
                      obtain ⟨T918, J919, rfl, f922⟩ := b915
                      have I920 := I841.call J919 (tm_sub (by decide)) (Or.inl rfl)
                      have t923 := J919.up t849
                      have q924 := J919.keep (I841.up h_o0) (by decide) q859
                      have q925 := J919.keep (I841.up h_o0) (by decide) q860
                      have q926 := J919.keep t849 (by decide) q870
                      obtain ⟨s927, e928⟩ : ∃ s9 : p_S, p_nx s850 = s9 := ⟨_, rfl⟩
                      rw [e928] at f922
                      have : s927.1 = 0 := by rw [← e928]; show s850.1 = 0; omega
                      obtain ⟨v929, v930, v931, v932, v933, v934, v935, q936, q937, q938, q939, q940, q941, q942, h943, h944, h945⟩ := f922
                      replace h944 := Im.i h944
                      replace h945 := Im.i h945
                      refine mv_aload_n d_Reader_term_115 rfl rfl ?_
                      obtain ⟨_, b952, -⟩ := I920.1 _ _ t923
                      refine mv_callV (kc' := 0) (ks' := 0) (As := []) (st9 := [.ref o0]) d_Reader_term_116 lV_Reader_186 b952 rfl (tc_Reader_sum_q0_x (d := d) (x9 := x9) (o0 := o0) t923 (p := p) q926 (by omega) (by first | omega | decide) (hK I920) ⟨_, _, _, _, _, _, _, q936, q937, q938, q939, q940, q941, q942, h943, Im.o h944, Im.o h945⟩ (by omega) I920.start) rfl (Nat.le_of_ble_eq_true rfl) (Nat.le_of_ble_eq_true rfl) (Nat.le_of_ble_eq_true rfl) (hst := rfl) (fun b946r M947 n948 b946 => ?_)
                      obtain ⟨T949, J950, v953, rfl, b954, b955, o956, f957, f958⟩ := b946
                      have I951 := I920.call J950 (tm_sub (by decide)) (Or.inl rfl)
                      have t959 := J950.up t923
                      obtain ⟨s960, e961⟩ : ∃ s9 : p_S, p_sum pb pn pa (p_op pb pn pa 0) s927 = s9 := ⟨_, rfl⟩
                      rw [e961] at f957 f958
                      obtain ⟨v962, v963, v964, v965, v966, v967, v968, q969, q970, q971, q972, q973, q974, q975, h976, h977, h978⟩ := f957
                      replace h977 := Im.i h977
                      replace h978 := Im.i h978
                      have := mz_hi v953
                      refine mv_if_neZ (tgt := 124) (a := v953.toInt) d_Reader_term_119 (by decide) rfl (fun b979 => ?_) (fun b979 => ?_)
                      · have q980 := o956 (by omega)
                        refine mv_aload_n d_Reader_term_124 rfl rfl ?_
                        refine mv_iload_n d_Reader_term_125 rfl rfl ?_
                        refine mv_iconst (v := 0) d_Reader_term_126 (by decide) ?_
                        obtain ⟨_, b987, -⟩ := I951.1 _ _ t959
                        refine mv_callV (kc' := 0) (ks' := 0) (As := [.int 7, .int 0]) (st9 := [.int 0, .int 7, .ref o0]) d_Reader_term_127 lV_Reader_203 b987 rfl (tc_Reader_emit (d := (d + 4)) (x9 := x9) (o0 := o0) (x1 := 7) (x2 := 0) t959 I951.start) rfl (Nat.le_of_ble_eq_true rfl) (Nat.le_of_ble_eq_true rfl) (Nat.le_of_ble_eq_true rfl) (hst := rfl) (fun b981r M982 n983 b981 => ?_)
                        obtain ⟨T984, J985, rfl⟩ := b981
                        have I986 := I951.call J985 (tm_sub (by decide)) (Or.inl rfl)
                        have t988 := J985.up t959
                        have q989 := J985.keep (I951.up h_o0) (by decide) q969
                        have q990 := J985.keep (I951.up h_o0) (by decide) q970
                        have q991 := J985.keep (I951.up h_o0) (by decide) q971
                        have q992 := J985.keep (I951.up h_o0) (by decide) q972
                        have q993 := J985.keep (I951.up h_o0) (by decide) q973
                        have q994 := J985.keep (I951.up h_o0) (by decide) q974
                        have q995 := J985.keep (I951.up h_o0) (by decide) q975
                        have q996 := J985.keep t959 (by decide) q980
                        refine mv_iload_n d_Reader_term_130 rfl rfl ?_
                        have := mz_hi i1_18
                        refine mv_if_eqZ (tgt := 141) (a := i1_18.toInt) d_Reader_term_131 (by decide) rfl (fun b997 => ?_) (fun b997 => ?_)
                        · refine mv_iconst (v := 1) d_Reader_term_141 (by decide) ?_
                          exact mv_iret d_Reader_term_142 rfl (by decide) ⟨_, I986, _, rfl, by decide, by decide, fun _ => q996, (by have := (Im.o h40) (by omega); have := yC.d s19.2.2; have := yC.kn s19.2.2; have := (Im.o h868) (by omega); have := yC.d s850.2.2; have := yC.kn s850.2.2; have eT : p_ter pb pn pa 0 (p_oc pb pn pa 0) ps = s960 := (by have hop : p_oc pb pn pa 0 s19 = p_fl pb pn 4 s19 := rfl; have hX := e23.symm.trans (p_lp_stop (show (p_no1 pb pn) s19 = s19 from if_neg (fun h9 => by omega))); unfold p_ter; rw [hX]; unfold p_te1; unfold p_cmp; (try simp only [hop]); (try simp only [e851, e928, e961]); ((repeat' (first | (with_reducible rfl) | split)) <;> (first | ((try simp only [e851, e928, e961]); done) | (exfalso; omega)))); rw [eT]; exact ⟨⟨_, _, _, _, _, _, _, q989, q990, q991, q992, q993, q994, q995, h976, Im.o h977, Im.o h978⟩, (Or.inl ⟨by first | decide | omega, by omega⟩)⟩)⟩
                        · refine mv_aload_n d_Reader_term_134 rfl rfl ?_
                          refine mv_bipush (v := 8) d_Reader_term_135 (by decide) ?_
                          refine mv_iconst (v := 0) d_Reader_term_137 (by decide) ?_
                          obtain ⟨_, b1004, -⟩ := I986.1 _ _ t988
                          refine mv_callV (kc' := 0) (ks' := 0) (As := [.int 8, .int 0]) (st9 := [.int 0, .int 8, .ref o0]) d_Reader_term_138 lV_Reader_203 b1004 rfl (tc_Reader_emit (d := (d + 4)) (x9 := x9) (o0 := o0) (x1 := 8) (x2 := 0) t988 I986.start) rfl (Nat.le_of_ble_eq_true rfl) (Nat.le_of_ble_eq_true rfl) (Nat.le_of_ble_eq_true rfl) (hst := rfl) (fun b998r M999 n1000 b998 => ?_)
                          obtain ⟨T1001, J1002, rfl⟩ := b998
                          have I1003 := I986.call J1002 (tm_sub (by decide)) (Or.inl rfl)
                          have t1005 := J1002.up t988
                          have q1006 := J1002.keep t988 (by decide) q989
                          have q1007 := J1002.keep t988 (by decide) q990
                          have q1008 := J1002.keep t988 (by decide) q991
                          have q1009 := J1002.keep t988 (by decide) q992
                          have q1010 := J1002.keep t988 (by decide) q993
                          have q1011 := J1002.keep t988 (by decide) q994
                          have q1012 := J1002.keep t988 (by decide) q995
                          have q1013 := J1002.keep t988 (by decide) q996
                          refine mv_iconst (v := 1) d_Reader_term_141 (by decide) ?_
                          exact mv_iret d_Reader_term_142 rfl (by decide) ⟨_, I1003, _, rfl, by decide, by decide, fun _ => q1013, (by have := (Im.o h40) (by omega); have := yC.d s19.2.2; have := yC.kn s19.2.2; have := (Im.o h868) (by omega); have := yC.d s850.2.2; have := yC.kn s850.2.2; have eT : p_ter pb pn pa 0 (p_oc pb pn pa 0) ps = s960 := (by have hop : p_oc pb pn pa 0 s19 = p_fl pb pn 4 s19 := rfl; have hX := e23.symm.trans (p_lp_stop (show (p_no1 pb pn) s19 = s19 from if_neg (fun h9 => by omega))); unfold p_ter; rw [hX]; unfold p_te1; unfold p_cmp; (try simp only [hop]); (try simp only [e851, e928, e961]); ((repeat' (first | (with_reducible rfl) | split)) <;> (first | ((try simp only [e851, e928, e961]); done) | (exfalso; omega)))); rw [eT]; exact ⟨⟨_, _, _, _, _, _, _, q1006, q1007, q1008, q1009, q1010, q1011, q1012, h976, Im.o h977, Im.o h978⟩, (Or.inl ⟨by first | decide | omega, by omega⟩)⟩)⟩
                      · refine mv_iconst (v := 0) d_Reader_term_122 (by decide) ?_
                        exact mv_iret d_Reader_term_123 rfl (by decide) ⟨_, I951, _, rfl, by decide, by decide, fun h => absurd h (by decide), (by have := (Im.o h40) (by omega); have := yC.d s19.2.2; have := yC.kn s19.2.2; have := (Im.o h868) (by omega); have := yC.d s850.2.2; have := yC.kn s850.2.2; have hb : s960.1 ≠ 0 := (by omega); have z1 : ∀ c, p_sg pb pn c s960 = s960 := (fun c => p_sg_Z s960 hb); have z2 : ∀ c, p_wd pb pn c s960 = s960 := (fun c => p_wd_Z s960 hb); have z3 : ∀ op, p_sum pb pn pa op s960 = s960 := (fun op => p_sum_Z s960 hb); have z4 : ∀ r oc, p_con pb pn pa r oc s960 = s960 := (fun r oc => p_con_Z s960 hb); have z5 : p_prt pb pn s960 = s960 := p_prt_Z s960 hb; have eT : p_ter pb pn pa 0 (p_oc pb pn pa 0) ps = s960 := (by have hop : p_oc pb pn pa 0 s19 = p_fl pb pn 4 s19 := rfl; have hX := e23.symm.trans (p_lp_stop (show (p_no1 pb pn) s19 = s19 from if_neg (fun h9 => by omega))); unfold p_ter; rw [hX]; unfold p_te1; unfold p_cmp; (try simp only [hop]); (try simp only [e851, e928, e961, z1, z2, z3, z4, z5]); ((repeat' (first | (with_reducible rfl) | split)) <;> (first | ((try simp only [e851, e928, e961, z1, z2, z3, z4, z5]); done) | (exfalso; omega)))); rw [eT]; exact ⟨⟨_, _, _, _, _, _, _, q969, q970, q971, q972, q973, q974, q975, h976, Im.o h977, Im.o h978⟩, (Or.inr ⟨by first | decide | omega, by omega⟩)⟩)⟩
                  · refine mv_iconst (v := 1) d_Reader_isSign_16 (by decide) ?_
                    refine mv_goto (tgt := 21) d_Reader_isSign_17 (by decide) ?_
                    refine mv_iret d_Reader_isSign_21 rfl (by decide) ?_
                    refine mv_if_eq_f (tgt := 23) d_Reader_comparisonHere_17 (by decide) (by decide) ?_
                    refine mv_bipush (v := 6) d_Reader_comparisonHere_20 (by decide) ?_
                    refine mv_iret d_Reader_comparisonHere_22 rfl (by first | rfl | decide) ?_
                    refine mv_istore_n (lv' := [(2, .int 6), (1, .int i1_18), (0, .ref o0)]) d_Reader_term_99 rfl (by decide) rfl ?_
                    refine mv_iload_n d_Reader_term_100 rfl rfl ?_
                    refine mv_iconst (v := (-1)) d_Reader_term_101 (by decide) ?_
                    refine mv_icmp_ne_t (tgt := 111) d_Reader_term_102 (by decide) (by decide) ?_
                    refine mv_aload_n d_Reader_term_111 rfl rfl ?_
                    obtain ⟨_, b1020, -⟩ := I841.1 _ _ t849
                    refine mv_callV (kc' := 0) (ks' := 0) (As := []) (st9 := [.ref o0]) d_Reader_term_112 lV_Reader_82 b1020 rfl (tc_Reader_advance_x (d := (d + 4)) (x9 := x9) (o0 := o0) t849 (hK I841) (qS.a (show qS M837 o0 pb pn s850 from ⟨_, _, _, _, _, _, _, q859, q860, q861, q862, q863, q864, q865, h866, Im.o h867, Im.o h868⟩)) (by have := (Im.o h40) (by omega); have := yC.d s19.2.2; have := yC.kn s19.2.2; have := (Im.o h868) (by omega); have := yC.d s850.2.2; have := yC.kn s850.2.2; show s850.2.2 + 1 ≤ 401; omega) I841.start) rfl (Nat.le_of_ble_eq_true rfl) (Nat.le_of_ble_eq_true rfl) (Nat.le_of_ble_eq_true rfl) (hst := rfl) (fun b1014r M1015 n1016 b1014 => ?_)
                    obtain ⟨T1017, J1018, rfl, f1021⟩ := b1014
                    have I1019 := I841.call J1018 (tm_sub (by decide)) (Or.inl rfl)
                    have t1022 := J1018.up t849
                    have q1023 := J1018.keep (I841.up h_o0) (by decide) q859
                    have q1024 := J1018.keep (I841.up h_o0) (by decide) q860
                    have q1025 := J1018.keep t849 (by decide) q870
                    obtain ⟨s1026, e1027⟩ : ∃ s9 : p_S, p_nx s850 = s9 := ⟨_, rfl⟩
                    rw [e1027] at f1021
                    have : s1026.1 = 0 := by rw [← e1027]; show s850.1 = 0; omega
                    obtain ⟨v1028, v1029, v1030, v1031, v1032, v1033, v1034, q1035, q1036, q1037, q1038, q1039, q1040, q1041, h1042, h1043, h1044⟩ := f1021
                    replace h1043 := Im.i h1043
                    replace h1044 := Im.i h1044
                    refine mv_aload_n d_Reader_term_115 rfl rfl ?_
                    obtain ⟨_, b1051, -⟩ := I1019.1 _ _ t1022
                    refine mv_callV (kc' := 0) (ks' := 0) (As := []) (st9 := [.ref o0]) d_Reader_term_116 lV_Reader_186 b1051 rfl (tc_Reader_sum_q0_x (d := d) (x9 := x9) (o0 := o0) t1022 (p := p) q1025 (by omega) (by first | omega | decide) (hK I1019) ⟨_, _, _, _, _, _, _, q1035, q1036, q1037, q1038, q1039, q1040, q1041, h1042, Im.o h1043, Im.o h1044⟩ (by omega) I1019.start) rfl (Nat.le_of_ble_eq_true rfl) (Nat.le_of_ble_eq_true rfl) (Nat.le_of_ble_eq_true rfl) (hst := rfl) (fun b1045r M1046 n1047 b1045 => ?_)
                    obtain ⟨T1048, J1049, v1052, rfl, b1053, b1054, o1055, f1056, f1057⟩ := b1045
                    have I1050 := I1019.call J1049 (tm_sub (by decide)) (Or.inl rfl)
                    have t1058 := J1049.up t1022
                    obtain ⟨s1059, e1060⟩ : ∃ s9 : p_S, p_sum pb pn pa (p_op pb pn pa 0) s1026 = s9 := ⟨_, rfl⟩
                    rw [e1060] at f1056 f1057
                    obtain ⟨v1061, v1062, v1063, v1064, v1065, v1066, v1067, q1068, q1069, q1070, q1071, q1072, q1073, q1074, h1075, h1076, h1077⟩ := f1056
                    replace h1076 := Im.i h1076
                    replace h1077 := Im.i h1077
                    have := mz_hi v1052
                    refine mv_if_neZ (tgt := 124) (a := v1052.toInt) d_Reader_term_119 (by decide) rfl (fun b1078 => ?_) (fun b1078 => ?_)
                    · have q1079 := o1055 (by omega)
                      refine mv_aload_n d_Reader_term_124 rfl rfl ?_
                      refine mv_iload_n d_Reader_term_125 rfl rfl ?_
                      refine mv_iconst (v := 0) d_Reader_term_126 (by decide) ?_
                      obtain ⟨_, b1086, -⟩ := I1050.1 _ _ t1058
                      refine mv_callV (kc' := 0) (ks' := 0) (As := [.int 6, .int 0]) (st9 := [.int 0, .int 6, .ref o0]) d_Reader_term_127 lV_Reader_203 b1086 rfl (tc_Reader_emit (d := (d + 4)) (x9 := x9) (o0 := o0) (x1 := 6) (x2 := 0) t1058 I1050.start) rfl (Nat.le_of_ble_eq_true rfl) (Nat.le_of_ble_eq_true rfl) (Nat.le_of_ble_eq_true rfl) (hst := rfl) (fun b1080r M1081 n1082 b1080 => ?_)
                      obtain ⟨T1083, J1084, rfl⟩ := b1080
                      have I1085 := I1050.call J1084 (tm_sub (by decide)) (Or.inl rfl)
                      have t1087 := J1084.up t1058
                      have q1088 := J1084.keep (I1050.up h_o0) (by decide) q1068
                      have q1089 := J1084.keep (I1050.up h_o0) (by decide) q1069
                      have q1090 := J1084.keep (I1050.up h_o0) (by decide) q1070
                      have q1091 := J1084.keep (I1050.up h_o0) (by decide) q1071
                      have q1092 := J1084.keep (I1050.up h_o0) (by decide) q1072
                      have q1093 := J1084.keep (I1050.up h_o0) (by decide) q1073
                      have q1094 := J1084.keep (I1050.up h_o0) (by decide) q1074
                      have q1095 := J1084.keep t1058 (by decide) q1079
                      refine mv_iload_n d_Reader_term_130 rfl rfl ?_
                      have := mz_hi i1_18
                      refine mv_if_eqZ (tgt := 141) (a := i1_18.toInt) d_Reader_term_131 (by decide) rfl (fun b1096 => ?_) (fun b1096 => ?_)
                      · refine mv_iconst (v := 1) d_Reader_term_141 (by decide) ?_
                        exact mv_iret d_Reader_term_142 rfl (by decide) ⟨_, I1085, _, rfl, by decide, by decide, fun _ => q1095, (by have := (Im.o h40) (by omega); have := yC.d s19.2.2; have := yC.kn s19.2.2; have := (Im.o h868) (by omega); have := yC.d s850.2.2; have := yC.kn s850.2.2; have eT : p_ter pb pn pa 0 (p_oc pb pn pa 0) ps = s1059 := (by have hop : p_oc pb pn pa 0 s19 = p_fl pb pn 4 s19 := rfl; have hX := e23.symm.trans (p_lp_stop (show (p_no1 pb pn) s19 = s19 from if_neg (fun h9 => by omega))); unfold p_ter; rw [hX]; unfold p_te1; unfold p_cmp; (try simp only [hop]); (try simp only [e851, e1027, e1060]); ((repeat' (first | (with_reducible rfl) | split)) <;> (first | ((try simp only [e851, e1027, e1060]); done) | (exfalso; omega)))); rw [eT]; exact ⟨⟨_, _, _, _, _, _, _, q1088, q1089, q1090, q1091, q1092, q1093, q1094, h1075, Im.o h1076, Im.o h1077⟩, (Or.inl ⟨by first | decide | omega, by omega⟩)⟩)⟩
                      · refine mv_aload_n d_Reader_term_134 rfl rfl ?_
                        refine mv_bipush (v := 8) d_Reader_term_135 (by decide) ?_
                        refine mv_iconst (v := 0) d_Reader_term_137 (by decide) ?_
                        obtain ⟨_, b1103, -⟩ := I1085.1 _ _ t1087
                        refine mv_callV (kc' := 0) (ks' := 0) (As := [.int 8, .int 0]) (st9 := [.int 0, .int 8, .ref o0]) d_Reader_term_138 lV_Reader_203 b1103 rfl (tc_Reader_emit (d := (d + 4)) (x9 := x9) (o0 := o0) (x1 := 8) (x2 := 0) t1087 I1085.start) rfl (Nat.le_of_ble_eq_true rfl) (Nat.le_of_ble_eq_true rfl) (Nat.le_of_ble_eq_true rfl) (hst := rfl) (fun b1097r M1098 n1099 b1097 => ?_)
                        obtain ⟨T1100, J1101, rfl⟩ := b1097
                        have I1102 := I1085.call J1101 (tm_sub (by decide)) (Or.inl rfl)
                        have t1104 := J1101.up t1087
                        have q1105 := J1101.keep t1087 (by decide) q1088
                        have q1106 := J1101.keep t1087 (by decide) q1089
                        have q1107 := J1101.keep t1087 (by decide) q1090
                        have q1108 := J1101.keep t1087 (by decide) q1091
                        have q1109 := J1101.keep t1087 (by decide) q1092
                        have q1110 := J1101.keep t1087 (by decide) q1093
                        have q1111 := J1101.keep t1087 (by decide) q1094
                        have q1112 := J1101.keep t1087 (by decide) q1095
                        refine mv_iconst (v := 1) d_Reader_term_141 (by decide) ?_
                        exact mv_iret d_Reader_term_142 rfl (by decide) ⟨_, I1102, _, rfl, by decide, by decide, fun _ => q1112, (by have := (Im.o h40) (by omega); have := yC.d s19.2.2; have := yC.kn s19.2.2; have := (Im.o h868) (by omega); have := yC.d s850.2.2; have := yC.kn s850.2.2; have eT : p_ter pb pn pa 0 (p_oc pb pn pa 0) ps = s1059 := (by have hop : p_oc pb pn pa 0 s19 = p_fl pb pn 4 s19 := rfl; have hX := e23.symm.trans (p_lp_stop (show (p_no1 pb pn) s19 = s19 from if_neg (fun h9 => by omega))); unfold p_ter; rw [hX]; unfold p_te1; unfold p_cmp; (try simp only [hop]); (try simp only [e851, e1027, e1060]); ((repeat' (first | (with_reducible rfl) | split)) <;> (first | ((try simp only [e851, e1027, e1060]); done) | (exfalso; omega)))); rw [eT]; exact ⟨⟨_, _, _, _, _, _, _, q1105, q1106, q1107, q1108, q1109, q1110, q1111, h1075, Im.o h1076, Im.o h1077⟩, (Or.inl ⟨by first | decide | omega, by omega⟩)⟩)⟩
                    · refine mv_iconst (v := 0) d_Reader_term_122 (by decide) ?_
                      exact mv_iret d_Reader_term_123 rfl (by decide) ⟨_, I1050, _, rfl, by decide, by decide, fun h => absurd h (by decide), (by have := (Im.o h40) (by omega); have := yC.d s19.2.2; have := yC.kn s19.2.2; have := (Im.o h868) (by omega); have := yC.d s850.2.2; have := yC.kn s850.2.2; have hb : s1059.1 ≠ 0 := (by omega); have z1 : ∀ c, p_sg pb pn c s1059 = s1059 := (fun c => p_sg_Z s1059 hb); have z2 : ∀ c, p_wd pb pn c s1059 = s1059 := (fun c => p_wd_Z s1059 hb); have z3 : ∀ op, p_sum pb pn pa op s1059 = s1059 := (fun op => p_sum_Z s1059 hb); have z4 : ∀ r oc, p_con pb pn pa r oc s1059 = s1059 := (fun r oc => p_con_Z s1059 hb); have z5 : p_prt pb pn s1059 = s1059 := p_prt_Z s1059 hb; have eT : p_ter pb pn pa 0 (p_oc pb pn pa 0) ps = s1059 := (by have hop : p_oc pb pn pa 0 s19 = p_fl pb pn 4 s19 := rfl; have hX := e23.symm.trans (p_lp_stop (show (p_no1 pb pn) s19 = s19 from if_neg (fun h9 => by omega))); unfold p_ter; rw [hX]; unfold p_te1; unfold p_cmp; (try simp only [hop]); (try simp only [e851, e1027, e1060, z1, z2, z3, z4, z5]); ((repeat' (first | (with_reducible rfl) | split)) <;> (first | ((try simp only [e851, e1027, e1060, z1, z2, z3, z4, z5]); done) | (exfalso; omega)))); rw [eT]; exact ⟨⟨_, _, _, _, _, _, _, q1068, q1069, q1070, q1071, q1072, q1073, q1074, h1075, Im.o h1076, Im.o h1077⟩, (Or.inr ⟨by first | decide | omega, by omega⟩)⟩)⟩
                · refine mv_iconst (v := 1) d_Reader_isSign_16 (by decide) ?_
                  refine mv_goto (tgt := 21) d_Reader_isSign_17 (by decide) ?_
                  refine mv_iret d_Reader_isSign_21 rfl (by decide) ?_
                  refine mv_if_eq_f (tgt := 11) d_Reader_comparisonHere_6 (by decide) (by decide) ?_
                  refine mv_iconst (v := 5) d_Reader_comparisonHere_9 (by decide) ?_
                  refine mv_iret d_Reader_comparisonHere_10 rfl (by first | rfl | decide) ?_
                  refine mv_istore_n (lv' := [(2, .int 5), (1, .int i1_18), (0, .ref o0)]) d_Reader_term_99 rfl (by decide) rfl ?_
                  refine mv_iload_n d_Reader_term_100 rfl rfl ?_
                  refine mv_iconst (v := (-1)) d_Reader_term_101 (by decide) ?_
                  refine mv_icmp_ne_t (tgt := 111) d_Reader_term_102 (by decide) (by decide) ?_
                  refine mv_aload_n d_Reader_term_111 rfl rfl ?_
                  obtain ⟨_, b1119, -⟩ := I841.1 _ _ t849
                  refine mv_callV (kc' := 0) (ks' := 0) (As := []) (st9 := [.ref o0]) d_Reader_term_112 lV_Reader_82 b1119 rfl (tc_Reader_advance_x (d := (d + 4)) (x9 := x9) (o0 := o0) t849 (hK I841) (qS.a (show qS M837 o0 pb pn s850 from ⟨_, _, _, _, _, _, _, q859, q860, q861, q862, q863, q864, q865, h866, Im.o h867, Im.o h868⟩)) (by have := (Im.o h40) (by omega); have := yC.d s19.2.2; have := yC.kn s19.2.2; have := (Im.o h868) (by omega); have := yC.d s850.2.2; have := yC.kn s850.2.2; show s850.2.2 + 1 ≤ 401; omega) I841.start) rfl (Nat.le_of_ble_eq_true rfl) (Nat.le_of_ble_eq_true rfl) (Nat.le_of_ble_eq_true rfl) (hst := rfl) (fun b1113r M1114 n1115 b1113 => ?_)
                  obtain ⟨T1116, J1117, rfl, f1120⟩ := b1113
                  have I1118 := I841.call J1117 (tm_sub (by decide)) (Or.inl rfl)
                  have t1121 := J1117.up t849
                  have q1122 := J1117.keep (I841.up h_o0) (by decide) q859
                  have q1123 := J1117.keep (I841.up h_o0) (by decide) q860
                  have q1124 := J1117.keep t849 (by decide) q870
                  obtain ⟨s1125, e1126⟩ : ∃ s9 : p_S, p_nx s850 = s9 := ⟨_, rfl⟩
                  rw [e1126] at f1120
                  have : s1125.1 = 0 := by rw [← e1126]; show s850.1 = 0; omega
                  obtain ⟨v1127, v1128, v1129, v1130, v1131, v1132, v1133, q1134, q1135, q1136, q1137, q1138, q1139, q1140, h1141, h1142, h1143⟩ := f1120
                  replace h1142 := Im.i h1142
                  replace h1143 := Im.i h1143
                  refine mv_aload_n d_Reader_term_115 rfl rfl ?_
                  obtain ⟨_, b1150, -⟩ := I1118.1 _ _ t1121
                  refine mv_callV (kc' := 0) (ks' := 0) (As := []) (st9 := [.ref o0]) d_Reader_term_116 lV_Reader_186 b1150 rfl (tc_Reader_sum_q0_x (d := d) (x9 := x9) (o0 := o0) t1121 (p := p) q1124 (by omega) (by first | omega | decide) (hK I1118) ⟨_, _, _, _, _, _, _, q1134, q1135, q1136, q1137, q1138, q1139, q1140, h1141, Im.o h1142, Im.o h1143⟩ (by omega) I1118.start) rfl (Nat.le_of_ble_eq_true rfl) (Nat.le_of_ble_eq_true rfl) (Nat.le_of_ble_eq_true rfl) (hst := rfl) (fun b1144r M1145 n1146 b1144 => ?_)
                  obtain ⟨T1147, J1148, v1151, rfl, b1152, b1153, o1154, f1155, f1156⟩ := b1144
                  have I1149 := I1118.call J1148 (tm_sub (by decide)) (Or.inl rfl)
                  have t1157 := J1148.up t1121
                  obtain ⟨s1158, e1159⟩ : ∃ s9 : p_S, p_sum pb pn pa (p_op pb pn pa 0) s1125 = s9 := ⟨_, rfl⟩
                  rw [e1159] at f1155 f1156
                  obtain ⟨v1160, v1161, v1162, v1163, v1164, v1165, v1166, q1167, q1168, q1169, q1170, q1171, q1172, q1173, h1174, h1175, h1176⟩ := f1155
                  replace h1175 := Im.i h1175
                  replace h1176 := Im.i h1176
                  have := mz_hi v1151
                  refine mv_if_neZ (tgt := 124) (a := v1151.toInt) d_Reader_term_119 (by decide) rfl (fun b1177 => ?_) (fun b1177 => ?_)
                  · have q1178 := o1154 (by omega)
                    refine mv_aload_n d_Reader_term_124 rfl rfl ?_
                    refine mv_iload_n d_Reader_term_125 rfl rfl ?_
                    refine mv_iconst (v := 0) d_Reader_term_126 (by decide) ?_
                    obtain ⟨_, b1185, -⟩ := I1149.1 _ _ t1157
                    refine mv_callV (kc' := 0) (ks' := 0) (As := [.int 5, .int 0]) (st9 := [.int 0, .int 5, .ref o0]) d_Reader_term_127 lV_Reader_203 b1185 rfl (tc_Reader_emit (d := (d + 4)) (x9 := x9) (o0 := o0) (x1 := 5) (x2 := 0) t1157 I1149.start) rfl (Nat.le_of_ble_eq_true rfl) (Nat.le_of_ble_eq_true rfl) (Nat.le_of_ble_eq_true rfl) (hst := rfl) (fun b1179r M1180 n1181 b1179 => ?_)
                    obtain ⟨T1182, J1183, rfl⟩ := b1179
                    have I1184 := I1149.call J1183 (tm_sub (by decide)) (Or.inl rfl)
                    have t1186 := J1183.up t1157
                    have q1187 := J1183.keep (I1149.up h_o0) (by decide) q1167
                    have q1188 := J1183.keep (I1149.up h_o0) (by decide) q1168
                    have q1189 := J1183.keep (I1149.up h_o0) (by decide) q1169
                    have q1190 := J1183.keep (I1149.up h_o0) (by decide) q1170
                    have q1191 := J1183.keep (I1149.up h_o0) (by decide) q1171
                    have q1192 := J1183.keep (I1149.up h_o0) (by decide) q1172
                    have q1193 := J1183.keep (I1149.up h_o0) (by decide) q1173
                    have q1194 := J1183.keep t1157 (by decide) q1178
                    refine mv_iload_n d_Reader_term_130 rfl rfl ?_
                    have := mz_hi i1_18
                    refine mv_if_eqZ (tgt := 141) (a := i1_18.toInt) d_Reader_term_131 (by decide) rfl (fun b1195 => ?_) (fun b1195 => ?_)
                    · refine mv_iconst (v := 1) d_Reader_term_141 (by decide) ?_
                      exact mv_iret d_Reader_term_142 rfl (by decide) ⟨_, I1184, _, rfl, by decide, by decide, fun _ => q1194, (by have := (Im.o h40) (by omega); have := yC.d s19.2.2; have := yC.kn s19.2.2; have := (Im.o h868) (by omega); have := yC.d s850.2.2; have := yC.kn s850.2.2; have eT : p_ter pb pn pa 0 (p_oc pb pn pa 0) ps = s1158 := (by have hop : p_oc pb pn pa 0 s19 = p_fl pb pn 4 s19 := rfl; have hX := e23.symm.trans (p_lp_stop (show (p_no1 pb pn) s19 = s19 from if_neg (fun h9 => by omega))); unfold p_ter; rw [hX]; unfold p_te1; unfold p_cmp; (try simp only [hop]); (try simp only [e851, e1126, e1159]); ((repeat' (first | (with_reducible rfl) | split)) <;> (first | ((try simp only [e851, e1126, e1159]); done) | (exfalso; omega)))); rw [eT]; exact ⟨⟨_, _, _, _, _, _, _, q1187, q1188, q1189, q1190, q1191, q1192, q1193, h1174, Im.o h1175, Im.o h1176⟩, (Or.inl ⟨by first | decide | omega, by omega⟩)⟩)⟩
                    · refine mv_aload_n d_Reader_term_134 rfl rfl ?_
                      refine mv_bipush (v := 8) d_Reader_term_135 (by decide) ?_
                      refine mv_iconst (v := 0) d_Reader_term_137 (by decide) ?_
                      obtain ⟨_, b1202, -⟩ := I1184.1 _ _ t1186
                      refine mv_callV (kc' := 0) (ks' := 0) (As := [.int 8, .int 0]) (st9 := [.int 0, .int 8, .ref o0]) d_Reader_term_138 lV_Reader_203 b1202 rfl (tc_Reader_emit (d := (d + 4)) (x9 := x9) (o0 := o0) (x1 := 8) (x2 := 0) t1186 I1184.start) rfl (Nat.le_of_ble_eq_true rfl) (Nat.le_of_ble_eq_true rfl) (Nat.le_of_ble_eq_true rfl) (hst := rfl) (fun b1196r M1197 n1198 b1196 => ?_)
                      obtain ⟨T1199, J1200, rfl⟩ := b1196
                      have I1201 := I1184.call J1200 (tm_sub (by decide)) (Or.inl rfl)
                      have t1203 := J1200.up t1186
                      have q1204 := J1200.keep t1186 (by decide) q1187
                      have q1205 := J1200.keep t1186 (by decide) q1188
                      have q1206 := J1200.keep t1186 (by decide) q1189
                      have q1207 := J1200.keep t1186 (by decide) q1190
                      have q1208 := J1200.keep t1186 (by decide) q1191
                      have q1209 := J1200.keep t1186 (by decide) q1192
                      have q1210 := J1200.keep t1186 (by decide) q1193
                      have q1211 := J1200.keep t1186 (by decide) q1194
                      refine mv_iconst (v := 1) d_Reader_term_141 (by decide) ?_
                      exact mv_iret d_Reader_term_142 rfl (by decide) ⟨_, I1201, _, rfl, by decide, by decide, fun _ => q1211, (by have := (Im.o h40) (by omega); have := yC.d s19.2.2; have := yC.kn s19.2.2; have := (Im.o h868) (by omega); have := yC.d s850.2.2; have := yC.kn s850.2.2; have eT : p_ter pb pn pa 0 (p_oc pb pn pa 0) ps = s1158 := (by have hop : p_oc pb pn pa 0 s19 = p_fl pb pn 4 s19 := rfl; have hX := e23.symm.trans (p_lp_stop (show (p_no1 pb pn) s19 = s19 from if_neg (fun h9 => by omega))); unfold p_ter; rw [hX]; unfold p_te1; unfold p_cmp; (try simp only [hop]); (try simp only [e851, e1126, e1159]); ((repeat' (first | (with_reducible rfl) | split)) <;> (first | ((try simp only [e851, e1126, e1159]); done) | (exfalso; omega)))); rw [eT]; exact ⟨⟨_, _, _, _, _, _, _, q1204, q1205, q1206, q1207, q1208, q1209, q1210, h1174, Im.o h1175, Im.o h1176⟩, (Or.inl ⟨by first | decide | omega, by omega⟩)⟩)⟩
                  · refine mv_iconst (v := 0) d_Reader_term_122 (by decide) ?_
                    exact mv_iret d_Reader_term_123 rfl (by decide) ⟨_, I1149, _, rfl, by decide, by decide, fun h => absurd h (by decide), (by have := (Im.o h40) (by omega); have := yC.d s19.2.2; have := yC.kn s19.2.2; have := (Im.o h868) (by omega); have := yC.d s850.2.2; have := yC.kn s850.2.2; have hb : s1158.1 ≠ 0 := (by omega); have z1 : ∀ c, p_sg pb pn c s1158 = s1158 := (fun c => p_sg_Z s1158 hb); have z2 : ∀ c, p_wd pb pn c s1158 = s1158 := (fun c => p_wd_Z s1158 hb); have z3 : ∀ op, p_sum pb pn pa op s1158 = s1158 := (fun op => p_sum_Z s1158 hb); have z4 : ∀ r oc, p_con pb pn pa r oc s1158 = s1158 := (fun r oc => p_con_Z s1158 hb); have z5 : p_prt pb pn s1158 = s1158 := p_prt_Z s1158 hb; have eT : p_ter pb pn pa 0 (p_oc pb pn pa 0) ps = s1158 := (by have hop : p_oc pb pn pa 0 s19 = p_fl pb pn 4 s19 := rfl; have hX := e23.symm.trans (p_lp_stop (show (p_no1 pb pn) s19 = s19 from if_neg (fun h9 => by omega))); unfold p_ter; rw [hX]; unfold p_te1; unfold p_cmp; (try simp only [hop]); (try simp only [e851, e1126, e1159, z1, z2, z3, z4, z5]); ((repeat' (first | (with_reducible rfl) | split)) <;> (first | ((try simp only [e851, e1126, e1159, z1, z2, z3, z4, z5]); done) | (exfalso; omega)))); rw [eT]; exact ⟨⟨_, _, _, _, _, _, _, q1167, q1168, q1169, q1170, q1171, q1172, q1173, h1174, Im.o h1175, Im.o h1176⟩, (Or.inr ⟨by first | decide | omega, by omega⟩)⟩)⟩
            · refine mv_iconst (v := 0) d_Reader_term_93 (by decide) ?_
              exact mv_iret d_Reader_term_94 rfl (by decide) ⟨_, I841, _, rfl, by decide, by decide, fun h => absurd h (by decide), (by have := (Im.o h40) (by omega); have := yC.d s19.2.2; have := yC.kn s19.2.2; have hb : s850.1 ≠ 0 := (by omega); have z1 : ∀ c, p_sg pb pn c s850 = s850 := (fun c => p_sg_Z s850 hb); have z2 : ∀ c, p_wd pb pn c s850 = s850 := (fun c => p_wd_Z s850 hb); have z3 : ∀ op, p_sum pb pn pa op s850 = s850 := (fun op => p_sum_Z s850 hb); have z4 : ∀ r oc, p_con pb pn pa r oc s850 = s850 := (fun r oc => p_con_Z s850 hb); have z5 : p_prt pb pn s850 = s850 := p_prt_Z s850 hb; have eT : p_ter pb pn pa 0 (p_oc pb pn pa 0) ps = s850 := (by have hop : p_oc pb pn pa 0 s19 = p_fl pb pn 4 s19 := rfl; have hX := e23.symm.trans (p_lp_stop (show (p_no1 pb pn) s19 = s19 from if_neg (fun h9 => by omega))); unfold p_ter; rw [hX]; unfold p_te1; unfold p_cmp; (try simp only [hop]); (try simp only [e851, z1, z2, z3, z4, z5]); ((repeat' (first | (with_reducible rfl) | split)) <;> (first | ((try simp only [e851, z1, z2, z3, z4, z5]); done) | (exfalso; omega)))); rw [eT]; exact ⟨⟨_, _, _, _, _, _, _, q859, q860, q861, q862, q863, q864, q865, h866, Im.o h867, Im.o h868⟩, (Or.inr ⟨by first | decide | omega, by omega⟩)⟩)⟩
          · refine mv_aload_n d_Reader_isSign_8 rfl rfl ?_
            refine tr_getK (k := 13) q37 d_Reader_isSign_9 f_Reader_241_9 ?_
            refine mv_iload_n d_Reader_isSign_12 rfl rfl ?_
            have := mz_hi v30
            refine mv_icmp_neZ (tgt := 20) (a := v30.toInt) (b := 91) d_Reader_isSign_13 (by decide) rfl (by decide) (fun b1212 => ?_) (fun b1212 => ?_)
            · refine mv_iconst (v := 0) d_Reader_isSign_20 (by decide) ?_
              refine mv_iret d_Reader_isSign_21 rfl (by decide) ?_
              refine mv_if_eq_t (tgt := 86) d_Reader_term_46 (by decide) (by decide) ?_
              refine mv_aload_n d_Reader_term_86 rfl rfl ?_
              obtain ⟨_, b1219, -⟩ := I_18.1 _ _ h_q0_18
              refine mv_callV (kc' := 0) (ks' := 0) (As := []) (st9 := [.ref o0]) d_Reader_term_87 lV_Reader_186 b1219 rfl (tc_Reader_sum_q0_x (d := d) (x9 := x9) (o0 := o0) h_q0_18 (p := p) kp0_18 (by omega) (by first | omega | decide) (hK I_18) ⟨_, _, _, _, _, _, _, q31, q32, q33, q34, q35, q36, q37, h38, Im.o h39, Im.o h40⟩ (by omega) I_18.start) rfl (Nat.le_of_ble_eq_true rfl) (Nat.le_of_ble_eq_true rfl) (Nat.le_of_ble_eq_true rfl) (hst := rfl) (fun b1213r M1214 n1215 b1213 => ?_)
              obtain ⟨T1216, J1217, v1220, rfl, b1221, b1222, o1223, f1224, f1225⟩ := b1213
              have I1218 := I_18.call J1217 (tm_sub (by decide)) (Or.inl rfl)
              have t1226 := J1217.up h_q0_18
              obtain ⟨s1227, e1228⟩ : ∃ s9 : p_S, p_sum pb pn pa (p_op pb pn pa 0) s19 = s9 := ⟨_, rfl⟩
              rw [e1228] at f1224 f1225
              obtain ⟨v1229, v1230, v1231, v1232, v1233, v1234, v1235, q1236, q1237, q1238, q1239, q1240, q1241, q1242, h1243, h1244, h1245⟩ := f1224
              replace h1244 := Im.i h1244
              replace h1245 := Im.i h1245
              have := mz_hi v1220
              refine mv_if_neZ (tgt := 95) (a := v1220.toInt) d_Reader_term_90 (by decide) rfl (fun b1246 => ?_) (fun b1246 => ?_)
              · have q1247 := o1223 (by omega)
                refine mv_aload_n d_Reader_term_95 rfl rfl ?_
                obtain ⟨_, b1248, -⟩ := I1218.1 _ _ t1226
                refine mv_callV (kc1 := 0) (ks1 := 0) (kc' := 0) (ks' := 0) (As := []) (st9 := [.ref o0]) d_Reader_term_96 lV_Reader_215 b1248 rfl (mj_enter (by decide) (Nat.le_of_ble_eq_true rfl) ?_) rfl (Nat.le_of_ble_eq_true rfl) (Nat.le_of_ble_eq_true rfl) (Nat.le_of_ble_eq_true rfl) (hst := rfl) (fun _ _ _ h => h)
                refine mv_aload_n d_Reader_comparisonHere_0 rfl rfl ?_
                refine mv_bipush (v := 60) d_Reader_comparisonHere_1 (by decide) ?_
                obtain ⟨_, b1249, -⟩ := I1218.1 _ _ t1226
                refine mv_callV (kc1 := 0) (ks1 := 0) (kc' := 0) (ks' := 0) (As := [.int 60]) (st9 := [.int 60, .ref o0]) d_Reader_comparisonHere_3 lV_Reader_209 b1249 rfl (mj_enter (by decide) (Nat.le_of_ble_eq_true rfl) ?_) rfl (Nat.le_of_ble_eq_true rfl) (Nat.le_of_ble_eq_true rfl) (Nat.le_of_ble_eq_true rfl) (hst := rfl) (fun _ _ _ h => h)
                refine mv_aload_n d_Reader_isSign_0 rfl rfl ?_
                refine tr_getK (k := 10) q1239 d_Reader_isSign_1 f_Reader_41_9 ?_
                refine mv_iconst (v := 3) d_Reader_isSign_4 (by decide) ?_
                have := mz_hi v1232
                refine mv_icmp_neZ (tgt := 20) (a := v1232.toInt) (b := 3) d_Reader_isSign_5 (by decide) rfl (by decide) (fun b1250 => ?_) (fun b1250 => ?_)
                · refine mv_iconst (v := 0) d_Reader_isSign_20 (by decide) ?_
                  refine mv_iret d_Reader_isSign_21 rfl (by decide) ?_
                  refine mv_if_eq_t (tgt := 11) d_Reader_comparisonHere_6 (by decide) (by decide) ?_
                  refine mv_aload_n d_Reader_comparisonHere_11 rfl rfl ?_
                  refine mv_bipush (v := 62) d_Reader_comparisonHere_12 (by decide) ?_
                  obtain ⟨_, b1251, -⟩ := I1218.1 _ _ t1226
                  refine mv_callV (kc1 := 0) (ks1 := 0) (kc' := 0) (ks' := 0) (As := [.int 62]) (st9 := [.int 62, .ref o0]) d_Reader_comparisonHere_14 lV_Reader_209 b1251 rfl (mj_enter (by decide) (Nat.le_of_ble_eq_true rfl) ?_) rfl (Nat.le_of_ble_eq_true rfl) (Nat.le_of_ble_eq_true rfl) (Nat.le_of_ble_eq_true rfl) (hst := rfl) (fun _ _ _ h => h)
                  refine mv_aload_n d_Reader_isSign_0 rfl rfl ?_
                  refine tr_getK (k := 10) q1239 d_Reader_isSign_1 f_Reader_41_9 ?_
                  refine mv_iconst (v := 3) d_Reader_isSign_4 (by decide) ?_
                  have := mz_hi v1232
                  refine mv_icmp_neZ (tgt := 20) (a := v1232.toInt) (b := 3) d_Reader_isSign_5 (by decide) rfl (by decide) (fun b1252 => ?_) (fun b1252 => absurd b1252 (by omega))
                  refine mv_iconst (v := 0) d_Reader_isSign_20 (by decide) ?_
                  refine mv_iret d_Reader_isSign_21 rfl (by decide) ?_
                  refine mv_if_eq_t (tgt := 23) d_Reader_comparisonHere_17 (by decide) (by decide) ?_
                  refine mv_aload_n d_Reader_comparisonHere_23 rfl rfl ?_
                  refine mv_bipush (v := 61) d_Reader_comparisonHere_24 (by decide) ?_
                  obtain ⟨_, b1253, -⟩ := I1218.1 _ _ t1226
                  refine mv_callV (kc1 := 0) (ks1 := 0) (kc' := 0) (ks' := 0) (As := [.int 61]) (st9 := [.int 61, .ref o0]) d_Reader_comparisonHere_26 lV_Reader_209 b1253 rfl (mj_enter (by decide) (Nat.le_of_ble_eq_true rfl) ?_) rfl (Nat.le_of_ble_eq_true rfl) (Nat.le_of_ble_eq_true rfl) (Nat.le_of_ble_eq_true rfl) (hst := rfl) (fun _ _ _ h => h)
                  refine mv_aload_n d_Reader_isSign_0 rfl rfl ?_
                  refine tr_getK (k := 10) q1239 d_Reader_isSign_1 f_Reader_41_9 ?_
                  refine mv_iconst (v := 3) d_Reader_isSign_4 (by decide) ?_
                  have := mz_hi v1232
                  refine mv_icmp_neZ (tgt := 20) (a := v1232.toInt) (b := 3) d_Reader_isSign_5 (by decide) rfl (by decide) (fun b1254 => ?_) (fun b1254 => absurd b1254 (by omega))
                  refine mv_iconst (v := 0) d_Reader_isSign_20 (by decide) ?_
                  refine mv_iret d_Reader_isSign_21 rfl (by decide) ?_
                  refine mv_if_eq_t (tgt := 37) d_Reader_comparisonHere_29 (by decide) (by decide) ?_
                  refine mv_iconst (v := (-1)) d_Reader_comparisonHere_37 (by decide) ?_
                  refine mv_iret d_Reader_comparisonHere_38 rfl (by first | rfl | decide) ?_
                  refine mv_istore_n (lv' := [(2, .int (-1)), (1, .int i1_18), (0, .ref o0)]) d_Reader_term_99 rfl (by decide) rfl ?_
                  refine mv_iload_n d_Reader_term_100 rfl rfl ?_
                  refine mv_iconst (v := (-1)) d_Reader_term_101 (by decide) ?_
                  refine mv_icmp_ne_f (tgt := 111) d_Reader_term_102 (by decide) (by decide) ?_
                  refine mv_aload_n d_Reader_term_105 rfl rfl ?_
                  refine mv_iconst (v := 1) d_Reader_term_106 (by decide) ?_
                  obtain ⟨_, b1255, -⟩ := I1218.1 _ _ t1226
                  refine mv_callV (kc1 := 0) (ks1 := 0) (kc' := 0) (ks' := 0) (As := [.int 1]) (st9 := [.int 1, .ref o0]) d_Reader_term_107 lV_Reader_56 b1255 rfl (mj_enter (by decide) (Nat.le_of_ble_eq_true rfl) ?_) rfl (Nat.le_of_ble_eq_true rfl) (Nat.le_of_ble_eq_true rfl) (Nat.le_of_ble_eq_true rfl) (hst := rfl) (fun _ _ _ h => h)
                  refine mv_aload_n d_Reader_refuse_0 rfl rfl ?_
                  refine mv_iload_n d_Reader_refuse_1 rfl rfl ?_
                  refine tr_putK tm_okF I1218 t1226 (k := 1) rfl ⟨_, rfl⟩ (Or.inl (by decide)) d_Reader_refuse_2 p_Reader_70_9 rfl rfl (fun M1256 I1257 q1258 K1259 => ?_)
                  refine mv_aload_n d_Reader_refuse_5 rfl rfl ?_
                  refine mv_aload_n d_Reader_refuse_6 rfl rfl ?_
                  refine tr_getK (k := 11) (K1259 _ 9 11 _ rfl q1240) d_Reader_refuse_7 f_Reader_175_9 ?_
                  refine tr_putK tm_okF I1257 t1226 (k := 2) rfl ⟨_, rfl⟩ (Or.inl (by decide)) d_Reader_refuse_10 p_Reader_11_9 rfl rfl (fun M1260 I1261 q1262 K1263 => ?_)
                  refine mv_iconst (v := 0) d_Reader_refuse_13 (by decide) ?_
                  obtain ⟨s1264, e1265⟩ : ∃ s9 : p_S, p_fl pb pn 1 s1227 = s9 := ⟨_, rfl⟩
                  have h1266 := q_fl e1265 (by omega) (by decide)
                  have h1267 : (1 : Int32).toInt = s1264.1 := (by have e9 : (1 : Int32).toInt = 1 := (by decide); omega)
                  have h1268 : Im (s1264.1 ≠ 0 → v1233.toInt = (s1264.2.1 : Int)) := Im.i (fun _ => by have := (Im.o h1245) (by omega); omega)
                  have h1269 : Im (s1264.1 = 0 → v1231.toInt = (s1264.2.2 : Int) ∧ v1232.toInt = p_ki pb pn s1264.2.2 ∧ v1233.toInt = (p_st pb pn s1264.2.2 : Int) ∧ v1234.toInt = (p_sp pb pn s1264.2.2 : Int) ∧ v1235.toInt = p_va pb pn s1264.2.2 ∧ v1233.toInt = -1) := Im.i (fun z9 => absurd z9 h1266.2.2)
                  refine mv_iret d_Reader_refuse_14 rfl (by decide) ?_
                  exact mv_iret d_Reader_term_110 rfl (by decide) ⟨_, I1261, _, rfl, by decide, by decide, fun h => absurd h (by decide), (by have := (Im.o h40) (by omega); have := yC.d s19.2.2; have := yC.kn s19.2.2; have := (Im.o h1245) (by omega); have := yC.d s1227.2.2; have := yC.kn s1227.2.2; have hb : s1264.1 ≠ 0 := (by omega); have z1 : ∀ c, p_sg pb pn c s1264 = s1264 := (fun c => p_sg_Z s1264 hb); have z2 : ∀ c, p_wd pb pn c s1264 = s1264 := (fun c => p_wd_Z s1264 hb); have z3 : ∀ op, p_sum pb pn pa op s1264 = s1264 := (fun op => p_sum_Z s1264 hb); have z4 : ∀ r oc, p_con pb pn pa r oc s1264 = s1264 := (fun r oc => p_con_Z s1264 hb); have z5 : p_prt pb pn s1264 = s1264 := p_prt_Z s1264 hb; have eT : p_ter pb pn pa 0 (p_oc pb pn pa 0) ps = s1264 := (by have hop : p_oc pb pn pa 0 s19 = p_fl pb pn 4 s19 := rfl; have hX := e23.symm.trans (p_lp_stop (show (p_no1 pb pn) s19 = s19 from if_neg (fun h9 => by omega))); unfold p_ter; rw [hX]; unfold p_te1; unfold p_cmp; (try simp only [hop]); (try simp only [e1228, e1265, z1, z2, z3, z4, z5]); ((repeat' (first | (with_reducible rfl) | split)) <;> (first | ((try simp only [e1228, e1265, z1, z2, z3, z4, z5]); done) | (exfalso; omega)))); rw [eT]; exact ⟨⟨_, _, _, _, _, _, _, (K1263 _ 9 1 _ rfl q1258), q1262, (K1263 _ 9 9 _ rfl (K1259 _ 9 9 _ rfl q1238)), (K1263 _ 9 10 _ rfl (K1259 _ 9 10 _ rfl q1239)), (K1263 _ 9 11 _ rfl (K1259 _ 9 11 _ rfl q1240)), (K1263 _ 9 12 _ rfl (K1259 _ 9 12 _ rfl q1241)), (K1263 _ 9 13 _ rfl (K1259 _ 9 13 _ rfl q1242)), h1267, Im.o h1268, Im.o h1269⟩, (Or.inr ⟨by first | decide | omega, by omega⟩)⟩)⟩
                · refine mv_aload_n d_Reader_isSign_8 rfl rfl ?_
                  refine tr_getK (k := 13) q1242 d_Reader_isSign_9 f_Reader_241_9 ?_
                  refine mv_iload_n d_Reader_isSign_12 rfl rfl ?_
                  have := mz_hi v1235
                  refine mv_icmp_neZ (tgt := 20) (a := v1235.toInt) (b := 60) d_Reader_isSign_13 (by decide) rfl (by decide) (fun b1270 => ?_) (fun b1270 => ?_)
                  · refine mv_iconst (v := 0) d_Reader_isSign_20 (by decide) ?_
                    refine mv_iret d_Reader_isSign_21 rfl (by decide) ?_
                    refine mv_if_eq_t (tgt := 11) d_Reader_comparisonHere_6 (by decide) (by decide) ?_
                    refine mv_aload_n d_Reader_comparisonHere_11 rfl rfl ?_
                    refine mv_bipush (v := 62) d_Reader_comparisonHere_12 (by decide) ?_
                    obtain ⟨_, b1271, -⟩ := I1218.1 _ _ t1226
                    refine mv_callV (kc1 := 0) (ks1 := 0) (kc' := 0) (ks' := 0) (As := [.int 62]) (st9 := [.int 62, .ref o0]) d_Reader_comparisonHere_14 lV_Reader_209 b1271 rfl (mj_enter (by decide) (Nat.le_of_ble_eq_true rfl) ?_) rfl (Nat.le_of_ble_eq_true rfl) (Nat.le_of_ble_eq_true rfl) (Nat.le_of_ble_eq_true rfl) (hst := rfl) (fun _ _ _ h => h)
                    refine mv_aload_n d_Reader_isSign_0 rfl rfl ?_
                    refine tr_getK (k := 10) q1239 d_Reader_isSign_1 f_Reader_41_9 ?_
                    refine mv_iconst (v := 3) d_Reader_isSign_4 (by decide) ?_
                    have := mz_hi v1232
                    refine mv_icmp_neZ (tgt := 20) (a := v1232.toInt) (b := 3) d_Reader_isSign_5 (by decide) rfl (by decide) (fun b1272 => absurd b1272 (by omega)) (fun b1272 => ?_)
                    refine mv_aload_n d_Reader_isSign_8 rfl rfl ?_
                    refine tr_getK (k := 13) q1242 d_Reader_isSign_9 f_Reader_241_9 ?_
                    refine mv_iload_n d_Reader_isSign_12 rfl rfl ?_
                    have := mz_hi v1235
                    refine mv_icmp_neZ (tgt := 20) (a := v1235.toInt) (b := 62) d_Reader_isSign_13 (by decide) rfl (by decide) (fun b1273 => ?_) (fun b1273 => ?_)
                    · refine mv_iconst (v := 0) d_Reader_isSign_20 (by decide) ?_
                      refine mv_iret d_Reader_isSign_21 rfl (by decide) ?_
                      refine mv_if_eq_t (tgt := 23) d_Reader_comparisonHere_17 (by decide) (by decide) ?_
                      refine mv_aload_n d_Reader_comparisonHere_23 rfl rfl ?_
                      refine mv_bipush (v := 61) d_Reader_comparisonHere_24 (by decide) ?_
                      obtain ⟨_, b1274, -⟩ := I1218.1 _ _ t1226
                      refine mv_callV (kc1 := 0) (ks1 := 0) (kc' := 0) (ks' := 0) (As := [.int 61]) (st9 := [.int 61, .ref o0]) d_Reader_comparisonHere_26 lV_Reader_209 b1274 rfl (mj_enter (by decide) (Nat.le_of_ble_eq_true rfl) ?_) rfl (Nat.le_of_ble_eq_true rfl) (Nat.le_of_ble_eq_true rfl) (Nat.le_of_ble_eq_true rfl) (hst := rfl) (fun _ _ _ h => h)
                      refine mv_aload_n d_Reader_isSign_0 rfl rfl ?_
                      refine tr_getK (k := 10) q1239 d_Reader_isSign_1 f_Reader_41_9 ?_
                      refine mv_iconst (v := 3) d_Reader_isSign_4 (by decide) ?_
                      have := mz_hi v1232
                      refine mv_icmp_neZ (tgt := 20) (a := v1232.toInt) (b := 3) d_Reader_isSign_5 (by decide) rfl (by decide) (fun b1275 => absurd b1275 (by omega)) (fun b1275 => ?_)
                      refine mv_aload_n d_Reader_isSign_8 rfl rfl ?_
                      refine tr_getK (k := 13) q1242 d_Reader_isSign_9 f_Reader_241_9 ?_
                      refine mv_iload_n d_Reader_isSign_12 rfl rfl ?_
                      have := mz_hi v1235
                      refine mv_icmp_neZ (tgt := 20) (a := v1235.toInt) (b := 61) d_Reader_isSign_13 (by decide) rfl (by decide) (fun b1276 => ?_) (fun b1276 => ?_)
                      · refine mv_iconst (v := 0) d_Reader_isSign_20 (by decide) ?_
                        refine mv_iret d_Reader_isSign_21 rfl (by decide) ?_
                        refine mv_if_eq_t (tgt := 37) d_Reader_comparisonHere_29 (by decide) (by decide) ?_
                        refine mv_iconst (v := (-1)) d_Reader_comparisonHere_37 (by decide) ?_
                        refine mv_iret d_Reader_comparisonHere_38 rfl (by first | rfl | decide) ?_
                        refine mv_istore_n (lv' := [(2, .int (-1)), (1, .int i1_18), (0, .ref o0)]) d_Reader_term_99 rfl (by decide) rfl ?_
                        refine mv_iload_n d_Reader_term_100 rfl rfl ?_
                        refine mv_iconst (v := (-1)) d_Reader_term_101 (by decide) ?_
                        refine mv_icmp_ne_f (tgt := 111) d_Reader_term_102 (by decide) (by decide) ?_
                        refine mv_aload_n d_Reader_term_105 rfl rfl ?_
                        refine mv_iconst (v := 1) d_Reader_term_106 (by decide) ?_
                        obtain ⟨_, b1277, -⟩ := I1218.1 _ _ t1226
                        refine mv_callV (kc1 := 0) (ks1 := 0) (kc' := 0) (ks' := 0) (As := [.int 1]) (st9 := [.int 1, .ref o0]) d_Reader_term_107 lV_Reader_56 b1277 rfl (mj_enter (by decide) (Nat.le_of_ble_eq_true rfl) ?_) rfl (Nat.le_of_ble_eq_true rfl) (Nat.le_of_ble_eq_true rfl) (Nat.le_of_ble_eq_true rfl) (hst := rfl) (fun _ _ _ h => h)
                        refine mv_aload_n d_Reader_refuse_0 rfl rfl ?_
                        refine mv_iload_n d_Reader_refuse_1 rfl rfl ?_
                        refine tr_putK tm_okF I1218 t1226 (k := 1) rfl ⟨_, rfl⟩ (Or.inl (by decide)) d_Reader_refuse_2 p_Reader_70_9 rfl rfl (fun M1278 I1279 q1280 K1281 => ?_)
                        refine mv_aload_n d_Reader_refuse_5 rfl rfl ?_
                        refine mv_aload_n d_Reader_refuse_6 rfl rfl ?_
                        refine tr_getK (k := 11) (K1281 _ 9 11 _ rfl q1240) d_Reader_refuse_7 f_Reader_175_9 ?_
                        refine tr_putK tm_okF I1279 t1226 (k := 2) rfl ⟨_, rfl⟩ (Or.inl (by decide)) d_Reader_refuse_10 p_Reader_11_9 rfl rfl (fun M1282 I1283 q1284 K1285 => ?_)
                        refine mv_iconst (v := 0) d_Reader_refuse_13 (by decide) ?_
                        obtain ⟨s1286, e1287⟩ : ∃ s9 : p_S, p_fl pb pn 1 s1227 = s9 := ⟨_, rfl⟩
                        have h1288 := q_fl e1287 (by omega) (by decide)
                        have h1289 : (1 : Int32).toInt = s1286.1 := (by have e9 : (1 : Int32).toInt = 1 := (by decide); omega)
                        have h1290 : Im (s1286.1 ≠ 0 → v1233.toInt = (s1286.2.1 : Int)) := Im.i (fun _ => by have := (Im.o h1245) (by omega); omega)
                        have h1291 : Im (s1286.1 = 0 → v1231.toInt = (s1286.2.2 : Int) ∧ v1232.toInt = p_ki pb pn s1286.2.2 ∧ v1233.toInt = (p_st pb pn s1286.2.2 : Int) ∧ v1234.toInt = (p_sp pb pn s1286.2.2 : Int) ∧ v1235.toInt = p_va pb pn s1286.2.2 ∧ v1233.toInt = -1) := Im.i (fun z9 => absurd z9 h1288.2.2)
                        refine mv_iret d_Reader_refuse_14 rfl (by decide) ?_
                        exact mv_iret d_Reader_term_110 rfl (by decide) ⟨_, I1283, _, rfl, by decide, by decide, fun h => absurd h (by decide), (by have := (Im.o h40) (by omega); have := yC.d s19.2.2; have := yC.kn s19.2.2; have := (Im.o h1245) (by omega); have := yC.d s1227.2.2; have := yC.kn s1227.2.2; have hb : s1286.1 ≠ 0 := (by omega); have z1 : ∀ c, p_sg pb pn c s1286 = s1286 := (fun c => p_sg_Z s1286 hb); have z2 : ∀ c, p_wd pb pn c s1286 = s1286 := (fun c => p_wd_Z s1286 hb); have z3 : ∀ op, p_sum pb pn pa op s1286 = s1286 := (fun op => p_sum_Z s1286 hb); have z4 : ∀ r oc, p_con pb pn pa r oc s1286 = s1286 := (fun r oc => p_con_Z s1286 hb); have z5 : p_prt pb pn s1286 = s1286 := p_prt_Z s1286 hb; have eT : p_ter pb pn pa 0 (p_oc pb pn pa 0) ps = s1286 := (by have hop : p_oc pb pn pa 0 s19 = p_fl pb pn 4 s19 := rfl; have hX := e23.symm.trans (p_lp_stop (show (p_no1 pb pn) s19 = s19 from if_neg (fun h9 => by omega))); unfold p_ter; rw [hX]; unfold p_te1; unfold p_cmp; (try simp only [hop]); (try simp only [e1228, e1287, z1, z2, z3, z4, z5]); ((repeat' (first | (with_reducible rfl) | split)) <;> (first | ((try simp only [e1228, e1287, z1, z2, z3, z4, z5]); done) | (exfalso; omega)))); rw [eT]; exact ⟨⟨_, _, _, _, _, _, _, (K1285 _ 9 1 _ rfl q1280), q1284, (K1285 _ 9 9 _ rfl (K1281 _ 9 9 _ rfl q1238)), (K1285 _ 9 10 _ rfl (K1281 _ 9 10 _ rfl q1239)), (K1285 _ 9 11 _ rfl (K1281 _ 9 11 _ rfl q1240)), (K1285 _ 9 12 _ rfl (K1281 _ 9 12 _ rfl q1241)), (K1285 _ 9 13 _ rfl (K1281 _ 9 13 _ rfl q1242)), h1289, Im.o h1290, Im.o h1291⟩, (Or.inr ⟨by first | decide | omega, by omega⟩)⟩)⟩
                      · refine mv_iconst (v := 1) d_Reader_isSign_16 (by decide) ?_
                        refine mv_goto (tgt := 21) d_Reader_isSign_17 (by decide) ?_
                        refine mv_iret d_Reader_isSign_21 rfl (by decide) ?_
                        refine mv_if_eq_f (tgt := 37) d_Reader_comparisonHere_29 (by decide) (by decide) ?_
                        refine mv_bipush (v := 7) d_Reader_comparisonHere_32 (by decide) ?_
                        refine mv_goto (tgt := 38) d_Reader_comparisonHere_34 (by decide) ?_
                        refine mv_iret d_Reader_comparisonHere_38 rfl (by first | rfl | decide) ?_
                        refine mv_istore_n (lv' := [(2, .int 7), (1, .int i1_18), (0, .ref o0)]) d_Reader_term_99 rfl (by decide) rfl ?_
                        refine mv_iload_n d_Reader_term_100 rfl rfl ?_
                        refine mv_iconst (v := (-1)) d_Reader_term_101 (by decide) ?_
                        refine mv_icmp_ne_t (tgt := 111) d_Reader_term_102 (by decide) (by decide) ?_
                        refine mv_aload_n d_Reader_term_111 rfl rfl ?_
                        obtain ⟨_, b1298, -⟩ := I1218.1 _ _ t1226
                        refine mv_callV (kc' := 0) (ks' := 0) (As := []) (st9 := [.ref o0]) d_Reader_term_112 lV_Reader_82 b1298 rfl (tc_Reader_advance_x (d := (d + 4)) (x9 := x9) (o0 := o0) t1226 (hK I1218) (qS.a (show qS M1214 o0 pb pn s1227 from ⟨_, _, _, _, _, _, _, q1236, q1237, q1238, q1239, q1240, q1241, q1242, h1243, Im.o h1244, Im.o h1245⟩)) (by have := (Im.o h40) (by omega); have := yC.d s19.2.2; have := yC.kn s19.2.2; have := (Im.o h1245) (by omega); have := yC.d s1227.2.2; have := yC.kn s1227.2.2; show s1227.2.2 + 1 ≤ 401; omega) I1218.start) rfl (Nat.le_of_ble_eq_true rfl) (Nat.le_of_ble_eq_true rfl) (Nat.le_of_ble_eq_true rfl) (hst := rfl) (fun b1292r M1293 n1294 b1292 => ?_)
                        obtain ⟨T1295, J1296, rfl, f1299⟩ := b1292
                        have I1297 := I1218.call J1296 (tm_sub (by decide)) (Or.inl rfl)
                        have t1300 := J1296.up t1226
                        have q1301 := J1296.keep (I1218.up h_o0) (by decide) q1236
                        have q1302 := J1296.keep (I1218.up h_o0) (by decide) q1237
                        have q1303 := J1296.keep t1226 (by decide) q1247
                        obtain ⟨s1304, e1305⟩ : ∃ s9 : p_S, p_nx s1227 = s9 := ⟨_, rfl⟩
                        rw [e1305] at f1299
                        have : s1304.1 = 0 := by rw [← e1305]; show s1227.1 = 0; omega
                        obtain ⟨v1306, v1307, v1308, v1309, v1310, v1311, v1312, q1313, q1314, q1315, q1316, q1317, q1318, q1319, h1320, h1321, h1322⟩ := f1299
                        replace h1321 := Im.i h1321
                        replace h1322 := Im.i h1322
                        refine mv_aload_n d_Reader_term_115 rfl rfl ?_
                        obtain ⟨_, b1329, -⟩ := I1297.1 _ _ t1300
                        refine mv_callV (kc' := 0) (ks' := 0) (As := []) (st9 := [.ref o0]) d_Reader_term_116 lV_Reader_186 b1329 rfl (tc_Reader_sum_q0_x (d := d) (x9 := x9) (o0 := o0) t1300 (p := p) q1303 (by omega) (by first | omega | decide) (hK I1297) ⟨_, _, _, _, _, _, _, q1313, q1314, q1315, q1316, q1317, q1318, q1319, h1320, Im.o h1321, Im.o h1322⟩ (by omega) I1297.start) rfl (Nat.le_of_ble_eq_true rfl) (Nat.le_of_ble_eq_true rfl) (Nat.le_of_ble_eq_true rfl) (hst := rfl) (fun b1323r M1324 n1325 b1323 => ?_)
                        obtain ⟨T1326, J1327, v1330, rfl, b1331, b1332, o1333, f1334, f1335⟩ := b1323
                        have I1328 := I1297.call J1327 (tm_sub (by decide)) (Or.inl rfl)
                        have t1336 := J1327.up t1300
                        obtain ⟨s1337, e1338⟩ : ∃ s9 : p_S, p_sum pb pn pa (p_op pb pn pa 0) s1304 = s9 := ⟨_, rfl⟩
                        rw [e1338] at f1334 f1335
                        obtain ⟨v1339, v1340, v1341, v1342, v1343, v1344, v1345, q1346, q1347, q1348, q1349, q1350, q1351, q1352, h1353, h1354, h1355⟩ := f1334
                        replace h1354 := Im.i h1354
                        replace h1355 := Im.i h1355
                        have := mz_hi v1330
                        refine mv_if_neZ (tgt := 124) (a := v1330.toInt) d_Reader_term_119 (by decide) rfl (fun b1356 => ?_) (fun b1356 => ?_)
                        · have q1357 := o1333 (by omega)
                          refine mv_aload_n d_Reader_term_124 rfl rfl ?_
                          refine mv_iload_n d_Reader_term_125 rfl rfl ?_
                          refine mv_iconst (v := 0) d_Reader_term_126 (by decide) ?_
                          obtain ⟨_, b1364, -⟩ := I1328.1 _ _ t1336
                          refine mv_callV (kc' := 0) (ks' := 0) (As := [.int 7, .int 0]) (st9 := [.int 0, .int 7, .ref o0]) d_Reader_term_127 lV_Reader_203 b1364 rfl (tc_Reader_emit (d := (d + 4)) (x9 := x9) (o0 := o0) (x1 := 7) (x2 := 0) t1336 I1328.start) rfl (Nat.le_of_ble_eq_true rfl) (Nat.le_of_ble_eq_true rfl) (Nat.le_of_ble_eq_true rfl) (hst := rfl) (fun b1358r M1359 n1360 b1358 => ?_)
                          obtain ⟨T1361, J1362, rfl⟩ := b1358
                          have I1363 := I1328.call J1362 (tm_sub (by decide)) (Or.inl rfl)
                          have t1365 := J1362.up t1336
                          have q1366 := J1362.keep (I1328.up h_o0) (by decide) q1346
                          have q1367 := J1362.keep (I1328.up h_o0) (by decide) q1347
                          have q1368 := J1362.keep (I1328.up h_o0) (by decide) q1348
                          have q1369 := J1362.keep (I1328.up h_o0) (by decide) q1349
                          have q1370 := J1362.keep (I1328.up h_o0) (by decide) q1350
                          have q1371 := J1362.keep (I1328.up h_o0) (by decide) q1351
                          have q1372 := J1362.keep (I1328.up h_o0) (by decide) q1352
                          have q1373 := J1362.keep t1336 (by decide) q1357
                          refine mv_iload_n d_Reader_term_130 rfl rfl ?_
                          have := mz_hi i1_18
                          refine mv_if_eqZ (tgt := 141) (a := i1_18.toInt) d_Reader_term_131 (by decide) rfl (fun b1374 => ?_) (fun b1374 => ?_)
                          · refine mv_iconst (v := 1) d_Reader_term_141 (by decide) ?_
                            exact mv_iret d_Reader_term_142 rfl (by decide) ⟨_, I1363, _, rfl, by decide, by decide, fun _ => q1373, (by have := (Im.o h40) (by omega); have := yC.d s19.2.2; have := yC.kn s19.2.2; have := (Im.o h1245) (by omega); have := yC.d s1227.2.2; have := yC.kn s1227.2.2; have eT : p_ter pb pn pa 0 (p_oc pb pn pa 0) ps = s1337 := (by have hop : p_oc pb pn pa 0 s19 = p_fl pb pn 4 s19 := rfl; have hX := e23.symm.trans (p_lp_stop (show (p_no1 pb pn) s19 = s19 from if_neg (fun h9 => by omega))); unfold p_ter; rw [hX]; unfold p_te1; unfold p_cmp; (try simp only [hop]); (try simp only [e1228, e1305, e1338]); ((repeat' (first | (with_reducible rfl) | split)) <;> (first | ((try simp only [e1228, e1305, e1338]); done) | (exfalso; omega)))); rw [eT]; exact ⟨⟨_, _, _, _, _, _, _, q1366, q1367, q1368, q1369, q1370, q1371, q1372, h1353, Im.o h1354, Im.o h1355⟩, (Or.inl ⟨by first | decide | omega, by omega⟩)⟩)⟩
                          · refine mv_aload_n d_Reader_term_134 rfl rfl ?_
                            refine mv_bipush (v := 8) d_Reader_term_135 (by decide) ?_
                            refine mv_iconst (v := 0) d_Reader_term_137 (by decide) ?_
                            obtain ⟨_, b1381, -⟩ := I1363.1 _ _ t1365
                            refine mv_callV (kc' := 0) (ks' := 0) (As := [.int 8, .int 0]) (st9 := [.int 0, .int 8, .ref o0]) d_Reader_term_138 lV_Reader_203 b1381 rfl (tc_Reader_emit (d := (d + 4)) (x9 := x9) (o0 := o0) (x1 := 8) (x2 := 0) t1365 I1363.start) rfl (Nat.le_of_ble_eq_true rfl) (Nat.le_of_ble_eq_true rfl) (Nat.le_of_ble_eq_true rfl) (hst := rfl) (fun b1375r M1376 n1377 b1375 => ?_)
                            obtain ⟨T1378, J1379, rfl⟩ := b1375
                            have I1380 := I1363.call J1379 (tm_sub (by decide)) (Or.inl rfl)
                            have t1382 := J1379.up t1365
                            have q1383 := J1379.keep t1365 (by decide) q1366
                            have q1384 := J1379.keep t1365 (by decide) q1367
                            have q1385 := J1379.keep t1365 (by decide) q1368
                            have q1386 := J1379.keep t1365 (by decide) q1369
                            have q1387 := J1379.keep t1365 (by decide) q1370
                            have q1388 := J1379.keep t1365 (by decide) q1371
                            have q1389 := J1379.keep t1365 (by decide) q1372
                            have q1390 := J1379.keep t1365 (by decide) q1373
                            refine mv_iconst (v := 1) d_Reader_term_141 (by decide) ?_
                            exact mv_iret d_Reader_term_142 rfl (by decide) ⟨_, I1380, _, rfl, by decide, by decide, fun _ => q1390, (by have := (Im.o h40) (by omega); have := yC.d s19.2.2; have := yC.kn s19.2.2; have := (Im.o h1245) (by omega); have := yC.d s1227.2.2; have := yC.kn s1227.2.2; have eT : p_ter pb pn pa 0 (p_oc pb pn pa 0) ps = s1337 := (by have hop : p_oc pb pn pa 0 s19 = p_fl pb pn 4 s19 := rfl; have hX := e23.symm.trans (p_lp_stop (show (p_no1 pb pn) s19 = s19 from if_neg (fun h9 => by omega))); unfold p_ter; rw [hX]; unfold p_te1; unfold p_cmp; (try simp only [hop]); (try simp only [e1228, e1305, e1338]); ((repeat' (first | (with_reducible rfl) | split)) <;> (first | ((try simp only [e1228, e1305, e1338]); done) | (exfalso; omega)))); rw [eT]; exact ⟨⟨_, _, _, _, _, _, _, q1383, q1384, q1385, q1386, q1387, q1388, q1389, h1353, Im.o h1354, Im.o h1355⟩, (Or.inl ⟨by first | decide | omega, by omega⟩)⟩)⟩
                        · refine mv_iconst (v := 0) d_Reader_term_122 (by decide) ?_
                          exact mv_iret d_Reader_term_123 rfl (by decide) ⟨_, I1328, _, rfl, by decide, by decide, fun h => absurd h (by decide), (by have := (Im.o h40) (by omega); have := yC.d s19.2.2; have := yC.kn s19.2.2; have := (Im.o h1245) (by omega); have := yC.d s1227.2.2; have := yC.kn s1227.2.2; have hb : s1337.1 ≠ 0 := (by omega); have z1 : ∀ c, p_sg pb pn c s1337 = s1337 := (fun c => p_sg_Z s1337 hb); have z2 : ∀ c, p_wd pb pn c s1337 = s1337 := (fun c => p_wd_Z s1337 hb); have z3 : ∀ op, p_sum pb pn pa op s1337 = s1337 := (fun op => p_sum_Z s1337 hb); have z4 : ∀ r oc, p_con pb pn pa r oc s1337 = s1337 := (fun r oc => p_con_Z s1337 hb); have z5 : p_prt pb pn s1337 = s1337 := p_prt_Z s1337 hb; have eT : p_ter pb pn pa 0 (p_oc pb pn pa 0) ps = s1337 := (by have hop : p_oc pb pn pa 0 s19 = p_fl pb pn 4 s19 := rfl; have hX := e23.symm.trans (p_lp_stop (show (p_no1 pb pn) s19 = s19 from if_neg (fun h9 => by omega))); unfold p_ter; rw [hX]; unfold p_te1; unfold p_cmp; (try simp only [hop]); (try simp only [e1228, e1305, e1338, z1, z2, z3, z4, z5]); ((repeat' (first | (with_reducible rfl) | split)) <;> (first | ((try simp only [e1228, e1305, e1338, z1, z2, z3, z4, z5]); done) | (exfalso; omega)))); rw [eT]; exact ⟨⟨_, _, _, _, _, _, _, q1346, q1347, q1348, q1349, q1350, q1351, q1352, h1353, Im.o h1354, Im.o h1355⟩, (Or.inr ⟨by first | decide | omega, by omega⟩)⟩)⟩
                    · refine mv_iconst (v := 1) d_Reader_isSign_16 (by decide) ?_
                      refine mv_goto (tgt := 21) d_Reader_isSign_17 (by decide) ?_
                      refine mv_iret d_Reader_isSign_21 rfl (by decide) ?_
                      refine mv_if_eq_f (tgt := 23) d_Reader_comparisonHere_17 (by decide) (by decide) ?_
                      refine mv_bipush (v := 6) d_Reader_comparisonHere_20 (by decide) ?_
                      refine mv_iret d_Reader_comparisonHere_22 rfl (by first | rfl | decide) ?_
                      refine mv_istore_n (lv' := [(2, .int 6), (1, .int i1_18), (0, .ref o0)]) d_Reader_term_99 rfl (by decide) rfl ?_
                      refine mv_iload_n d_Reader_term_100 rfl rfl ?_
                      refine mv_iconst (v := (-1)) d_Reader_term_101 (by decide) ?_
                      refine mv_icmp_ne_t (tgt := 111) d_Reader_term_102 (by decide) (by decide) ?_
                      refine mv_aload_n d_Reader_term_111 rfl rfl ?_
                      obtain ⟨_, b1397, -⟩ := I1218.1 _ _ t1226
                      refine mv_callV (kc' := 0) (ks' := 0) (As := []) (st9 := [.ref o0]) d_Reader_term_112 lV_Reader_82 b1397 rfl (tc_Reader_advance_x (d := (d + 4)) (x9 := x9) (o0 := o0) t1226 (hK I1218) (qS.a (show qS M1214 o0 pb pn s1227 from ⟨_, _, _, _, _, _, _, q1236, q1237, q1238, q1239, q1240, q1241, q1242, h1243, Im.o h1244, Im.o h1245⟩)) (by have := (Im.o h40) (by omega); have := yC.d s19.2.2; have := yC.kn s19.2.2; have := (Im.o h1245) (by omega); have := yC.d s1227.2.2; have := yC.kn s1227.2.2; show s1227.2.2 + 1 ≤ 401; omega) I1218.start) rfl (Nat.le_of_ble_eq_true rfl) (Nat.le_of_ble_eq_true rfl) (Nat.le_of_ble_eq_true rfl) (hst := rfl) (fun b1391r M1392 n1393 b1391 => ?_)
                      obtain ⟨T1394, J1395, rfl, f1398⟩ := b1391
                      have I1396 := I1218.call J1395 (tm_sub (by decide)) (Or.inl rfl)
                      have t1399 := J1395.up t1226
                      have q1400 := J1395.keep (I1218.up h_o0) (by decide) q1236
                      have q1401 := J1395.keep (I1218.up h_o0) (by decide) q1237
                      have q1402 := J1395.keep t1226 (by decide) q1247
                      obtain ⟨s1403, e1404⟩ : ∃ s9 : p_S, p_nx s1227 = s9 := ⟨_, rfl⟩
                      rw [e1404] at f1398
                      have : s1403.1 = 0 := by rw [← e1404]; show s1227.1 = 0; omega
                      obtain ⟨v1405, v1406, v1407, v1408, v1409, v1410, v1411, q1412, q1413, q1414, q1415, q1416, q1417, q1418, h1419, h1420, h1421⟩ := f1398
                      replace h1420 := Im.i h1420
                      replace h1421 := Im.i h1421
                      refine mv_aload_n d_Reader_term_115 rfl rfl ?_
                      obtain ⟨_, b1428, -⟩ := I1396.1 _ _ t1399
                      refine mv_callV (kc' := 0) (ks' := 0) (As := []) (st9 := [.ref o0]) d_Reader_term_116 lV_Reader_186 b1428 rfl (tc_Reader_sum_q0_x (d := d) (x9 := x9) (o0 := o0) t1399 (p := p) q1402 (by omega) (by first | omega | decide) (hK I1396) ⟨_, _, _, _, _, _, _, q1412, q1413, q1414, q1415, q1416, q1417, q1418, h1419, Im.o h1420, Im.o h1421⟩ (by omega) I1396.start) rfl (Nat.le_of_ble_eq_true rfl) (Nat.le_of_ble_eq_true rfl) (Nat.le_of_ble_eq_true rfl) (hst := rfl) (fun b1422r M1423 n1424 b1422 => ?_)
                      obtain ⟨T1425, J1426, v1429, rfl, b1430, b1431, o1432, f1433, f1434⟩ := b1422
                      have I1427 := I1396.call J1426 (tm_sub (by decide)) (Or.inl rfl)
                      have t1435 := J1426.up t1399
                      obtain ⟨s1436, e1437⟩ : ∃ s9 : p_S, p_sum pb pn pa (p_op pb pn pa 0) s1403 = s9 := ⟨_, rfl⟩
                      rw [e1437] at f1433 f1434
                      obtain ⟨v1438, v1439, v1440, v1441, v1442, v1443, v1444, q1445, q1446, q1447, q1448, q1449, q1450, q1451, h1452, h1453, h1454⟩ := f1433
                      replace h1453 := Im.i h1453
                      replace h1454 := Im.i h1454
                      have := mz_hi v1429
                      refine mv_if_neZ (tgt := 124) (a := v1429.toInt) d_Reader_term_119 (by decide) rfl (fun b1455 => ?_) (fun b1455 => ?_)
                      · have q1456 := o1432 (by omega)
                        refine mv_aload_n d_Reader_term_124 rfl rfl ?_
                        refine mv_iload_n d_Reader_term_125 rfl rfl ?_
                        refine mv_iconst (v := 0) d_Reader_term_126 (by decide) ?_
                        obtain ⟨_, b1463, -⟩ := I1427.1 _ _ t1435
                        refine mv_callV (kc' := 0) (ks' := 0) (As := [.int 6, .int 0]) (st9 := [.int 0, .int 6, .ref o0]) d_Reader_term_127 lV_Reader_203 b1463 rfl (tc_Reader_emit (d := (d + 4)) (x9 := x9) (o0 := o0) (x1 := 6) (x2 := 0) t1435 I1427.start) rfl (Nat.le_of_ble_eq_true rfl) (Nat.le_of_ble_eq_true rfl) (Nat.le_of_ble_eq_true rfl) (hst := rfl) (fun b1457r M1458 n1459 b1457 => ?_)
                        obtain ⟨T1460, J1461, rfl⟩ := b1457
                        have I1462 := I1427.call J1461 (tm_sub (by decide)) (Or.inl rfl)
                        have t1464 := J1461.up t1435
                        have q1465 := J1461.keep (I1427.up h_o0) (by decide) q1445
                        have q1466 := J1461.keep (I1427.up h_o0) (by decide) q1446
                        have q1467 := J1461.keep (I1427.up h_o0) (by decide) q1447
                        have q1468 := J1461.keep (I1427.up h_o0) (by decide) q1448
                        have q1469 := J1461.keep (I1427.up h_o0) (by decide) q1449
                        have q1470 := J1461.keep (I1427.up h_o0) (by decide) q1450
                        have q1471 := J1461.keep (I1427.up h_o0) (by decide) q1451
                        have q1472 := J1461.keep t1435 (by decide) q1456
                        refine mv_iload_n d_Reader_term_130 rfl rfl ?_
                        have := mz_hi i1_18
                        refine mv_if_eqZ (tgt := 141) (a := i1_18.toInt) d_Reader_term_131 (by decide) rfl (fun b1473 => ?_) (fun b1473 => ?_)
                        · refine mv_iconst (v := 1) d_Reader_term_141 (by decide) ?_
                          exact mv_iret d_Reader_term_142 rfl (by decide) ⟨_, I1462, _, rfl, by decide, by decide, fun _ => q1472, (by have := (Im.o h40) (by omega); have := yC.d s19.2.2; have := yC.kn s19.2.2; have := (Im.o h1245) (by omega); have := yC.d s1227.2.2; have := yC.kn s1227.2.2; have eT : p_ter pb pn pa 0 (p_oc pb pn pa 0) ps = s1436 := (by have hop : p_oc pb pn pa 0 s19 = p_fl pb pn 4 s19 := rfl; have hX := e23.symm.trans (p_lp_stop (show (p_no1 pb pn) s19 = s19 from if_neg (fun h9 => by omega))); unfold p_ter; rw [hX]; unfold p_te1; unfold p_cmp; (try simp only [hop]); (try simp only [e1228, e1404, e1437]); ((repeat' (first | (with_reducible rfl) | split)) <;> (first | ((try simp only [e1228, e1404, e1437]); done) | (exfalso; omega)))); rw [eT]; exact ⟨⟨_, _, _, _, _, _, _, q1465, q1466, q1467, q1468, q1469, q1470, q1471, h1452, Im.o h1453, Im.o h1454⟩, (Or.inl ⟨by first | decide | omega, by omega⟩)⟩)⟩
                        · refine mv_aload_n d_Reader_term_134 rfl rfl ?_
                          refine mv_bipush (v := 8) d_Reader_term_135 (by decide) ?_
                          refine mv_iconst (v := 0) d_Reader_term_137 (by decide) ?_
                          obtain ⟨_, b1480, -⟩ := I1462.1 _ _ t1464
                          refine mv_callV (kc' := 0) (ks' := 0) (As := [.int 8, .int 0]) (st9 := [.int 0, .int 8, .ref o0]) d_Reader_term_138 lV_Reader_203 b1480 rfl (tc_Reader_emit (d := (d + 4)) (x9 := x9) (o0 := o0) (x1 := 8) (x2 := 0) t1464 I1462.start) rfl (Nat.le_of_ble_eq_true rfl) (Nat.le_of_ble_eq_true rfl) (Nat.le_of_ble_eq_true rfl) (hst := rfl) (fun b1474r M1475 n1476 b1474 => ?_)
                          obtain ⟨T1477, J1478, rfl⟩ := b1474
                          have I1479 := I1462.call J1478 (tm_sub (by decide)) (Or.inl rfl)
                          have t1481 := J1478.up t1464
                          have q1482 := J1478.keep t1464 (by decide) q1465
                          have q1483 := J1478.keep t1464 (by decide) q1466
                          have q1484 := J1478.keep t1464 (by decide) q1467
                          have q1485 := J1478.keep t1464 (by decide) q1468
                          have q1486 := J1478.keep t1464 (by decide) q1469
                          have q1487 := J1478.keep t1464 (by decide) q1470
                          have q1488 := J1478.keep t1464 (by decide) q1471
                          have q1489 := J1478.keep t1464 (by decide) q1472
                          refine mv_iconst (v := 1) d_Reader_term_141 (by decide) ?_
                          exact mv_iret d_Reader_term_142 rfl (by decide) ⟨_, I1479, _, rfl, by decide, by decide, fun _ => q1489, (by have := (Im.o h40) (by omega); have := yC.d s19.2.2; have := yC.kn s19.2.2; have := (Im.o h1245) (by omega); have := yC.d s1227.2.2; have := yC.kn s1227.2.2; have eT : p_ter pb pn pa 0 (p_oc pb pn pa 0) ps = s1436 := (by have hop : p_oc pb pn pa 0 s19 = p_fl pb pn 4 s19 := rfl; have hX := e23.symm.trans (p_lp_stop (show (p_no1 pb pn) s19 = s19 from if_neg (fun h9 => by omega))); unfold p_ter; rw [hX]; unfold p_te1; unfold p_cmp; (try simp only [hop]); (try simp only [e1228, e1404, e1437]); ((repeat' (first | (with_reducible rfl) | split)) <;> (first | ((try simp only [e1228, e1404, e1437]); done) | (exfalso; omega)))); rw [eT]; exact ⟨⟨_, _, _, _, _, _, _, q1482, q1483, q1484, q1485, q1486, q1487, q1488, h1452, Im.o h1453, Im.o h1454⟩, (Or.inl ⟨by first | decide | omega, by omega⟩)⟩)⟩
                      · refine mv_iconst (v := 0) d_Reader_term_122 (by decide) ?_
                        exact mv_iret d_Reader_term_123 rfl (by decide) ⟨_, I1427, _, rfl, by decide, by decide, fun h => absurd h (by decide), (by have := (Im.o h40) (by omega); have := yC.d s19.2.2; have := yC.kn s19.2.2; have := (Im.o h1245) (by omega); have := yC.d s1227.2.2; have := yC.kn s1227.2.2; have hb : s1436.1 ≠ 0 := (by omega); have z1 : ∀ c, p_sg pb pn c s1436 = s1436 := (fun c => p_sg_Z s1436 hb); have z2 : ∀ c, p_wd pb pn c s1436 = s1436 := (fun c => p_wd_Z s1436 hb); have z3 : ∀ op, p_sum pb pn pa op s1436 = s1436 := (fun op => p_sum_Z s1436 hb); have z4 : ∀ r oc, p_con pb pn pa r oc s1436 = s1436 := (fun r oc => p_con_Z s1436 hb); have z5 : p_prt pb pn s1436 = s1436 := p_prt_Z s1436 hb; have eT : p_ter pb pn pa 0 (p_oc pb pn pa 0) ps = s1436 := (by have hop : p_oc pb pn pa 0 s19 = p_fl pb pn 4 s19 := rfl; have hX := e23.symm.trans (p_lp_stop (show (p_no1 pb pn) s19 = s19 from if_neg (fun h9 => by omega))); unfold p_ter; rw [hX]; unfold p_te1; unfold p_cmp; (try simp only [hop]); (try simp only [e1228, e1404, e1437, z1, z2, z3, z4, z5]); ((repeat' (first | (with_reducible rfl) | split)) <;> (first | ((try simp only [e1228, e1404, e1437, z1, z2, z3, z4, z5]); done) | (exfalso; omega)))); rw [eT]; exact ⟨⟨_, _, _, _, _, _, _, q1445, q1446, q1447, q1448, q1449, q1450, q1451, h1452, Im.o h1453, Im.o h1454⟩, (Or.inr ⟨by first | decide | omega, by omega⟩)⟩)⟩
                  · refine mv_iconst (v := 1) d_Reader_isSign_16 (by decide) ?_
                    refine mv_goto (tgt := 21) d_Reader_isSign_17 (by decide) ?_
                    refine mv_iret d_Reader_isSign_21 rfl (by decide) ?_
                    refine mv_if_eq_f (tgt := 11) d_Reader_comparisonHere_6 (by decide) (by decide) ?_
                    refine mv_iconst (v := 5) d_Reader_comparisonHere_9 (by decide) ?_
                    refine mv_iret d_Reader_comparisonHere_10 rfl (by first | rfl | decide) ?_
                    refine mv_istore_n (lv' := [(2, .int 5), (1, .int i1_18), (0, .ref o0)]) d_Reader_term_99 rfl (by decide) rfl ?_
                    refine mv_iload_n d_Reader_term_100 rfl rfl ?_
                    refine mv_iconst (v := (-1)) d_Reader_term_101 (by decide) ?_
                    refine mv_icmp_ne_t (tgt := 111) d_Reader_term_102 (by decide) (by decide) ?_
                    refine mv_aload_n d_Reader_term_111 rfl rfl ?_
                    obtain ⟨_, b1496, -⟩ := I1218.1 _ _ t1226
                    refine mv_callV (kc' := 0) (ks' := 0) (As := []) (st9 := [.ref o0]) d_Reader_term_112 lV_Reader_82 b1496 rfl (tc_Reader_advance_x (d := (d + 4)) (x9 := x9) (o0 := o0) t1226 (hK I1218) (qS.a (show qS M1214 o0 pb pn s1227 from ⟨_, _, _, _, _, _, _, q1236, q1237, q1238, q1239, q1240, q1241, q1242, h1243, Im.o h1244, Im.o h1245⟩)) (by have := (Im.o h40) (by omega); have := yC.d s19.2.2; have := yC.kn s19.2.2; have := (Im.o h1245) (by omega); have := yC.d s1227.2.2; have := yC.kn s1227.2.2; show s1227.2.2 + 1 ≤ 401; omega) I1218.start) rfl (Nat.le_of_ble_eq_true rfl) (Nat.le_of_ble_eq_true rfl) (Nat.le_of_ble_eq_true rfl) (hst := rfl) (fun b1490r M1491 n1492 b1490 => ?_)
                    obtain ⟨T1493, J1494, rfl, f1497⟩ := b1490
                    have I1495 := I1218.call J1494 (tm_sub (by decide)) (Or.inl rfl)
                    have t1498 := J1494.up t1226
                    have q1499 := J1494.keep (I1218.up h_o0) (by decide) q1236
                    have q1500 := J1494.keep (I1218.up h_o0) (by decide) q1237
                    have q1501 := J1494.keep t1226 (by decide) q1247
                    obtain ⟨s1502, e1503⟩ : ∃ s9 : p_S, p_nx s1227 = s9 := ⟨_, rfl⟩
                    rw [e1503] at f1497
                    have : s1502.1 = 0 := by rw [← e1503]; show s1227.1 = 0; omega
                    obtain ⟨v1504, v1505, v1506, v1507, v1508, v1509, v1510, q1511, q1512, q1513, q1514, q1515, q1516, q1517, h1518, h1519, h1520⟩ := f1497
                    replace h1519 := Im.i h1519
                    replace h1520 := Im.i h1520
                    refine mv_aload_n d_Reader_term_115 rfl rfl ?_
                    obtain ⟨_, b1527, -⟩ := I1495.1 _ _ t1498
                    refine mv_callV (kc' := 0) (ks' := 0) (As := []) (st9 := [.ref o0]) d_Reader_term_116 lV_Reader_186 b1527 rfl (tc_Reader_sum_q0_x (d := d) (x9 := x9) (o0 := o0) t1498 (p := p) q1501 (by omega) (by first | omega | decide) (hK I1495) ⟨_, _, _, _, _, _, _, q1511, q1512, q1513, q1514, q1515, q1516, q1517, h1518, Im.o h1519, Im.o h1520⟩ (by omega) I1495.start) rfl (Nat.le_of_ble_eq_true rfl) (Nat.le_of_ble_eq_true rfl) (Nat.le_of_ble_eq_true rfl) (hst := rfl) (fun b1521r M1522 n1523 b1521 => ?_)
                    obtain ⟨T1524, J1525, v1528, rfl, b1529, b1530, o1531, f1532, f1533⟩ := b1521
                    have I1526 := I1495.call J1525 (tm_sub (by decide)) (Or.inl rfl)
                    have t1534 := J1525.up t1498
                    obtain ⟨s1535, e1536⟩ : ∃ s9 : p_S, p_sum pb pn pa (p_op pb pn pa 0) s1502 = s9 := ⟨_, rfl⟩
                    rw [e1536] at f1532 f1533
                    obtain ⟨v1537, v1538, v1539, v1540, v1541, v1542, v1543, q1544, q1545, q1546, q1547, q1548, q1549, q1550, h1551, h1552, h1553⟩ := f1532
                    replace h1552 := Im.i h1552
                    replace h1553 := Im.i h1553
                    have := mz_hi v1528
                    refine mv_if_neZ (tgt := 124) (a := v1528.toInt) d_Reader_term_119 (by decide) rfl (fun b1554 => ?_) (fun b1554 => ?_)
                    · have q1555 := o1531 (by omega)
                      refine mv_aload_n d_Reader_term_124 rfl rfl ?_
                      refine mv_iload_n d_Reader_term_125 rfl rfl ?_
                      refine mv_iconst (v := 0) d_Reader_term_126 (by decide) ?_
                      obtain ⟨_, b1562, -⟩ := I1526.1 _ _ t1534
                      refine mv_callV (kc' := 0) (ks' := 0) (As := [.int 5, .int 0]) (st9 := [.int 0, .int 5, .ref o0]) d_Reader_term_127 lV_Reader_203 b1562 rfl (tc_Reader_emit (d := (d + 4)) (x9 := x9) (o0 := o0) (x1 := 5) (x2 := 0) t1534 I1526.start) rfl (Nat.le_of_ble_eq_true rfl) (Nat.le_of_ble_eq_true rfl) (Nat.le_of_ble_eq_true rfl) (hst := rfl) (fun b1556r M1557 n1558 b1556 => ?_)
                      obtain ⟨T1559, J1560, rfl⟩ := b1556
                      have I1561 := I1526.call J1560 (tm_sub (by decide)) (Or.inl rfl)
                      have t1563 := J1560.up t1534
                      have q1564 := J1560.keep (I1526.up h_o0) (by decide) q1544
                      have q1565 := J1560.keep (I1526.up h_o0) (by decide) q1545
                      have q1566 := J1560.keep (I1526.up h_o0) (by decide) q1546
                      have q1567 := J1560.keep (I1526.up h_o0) (by decide) q1547
                      have q1568 := J1560.keep (I1526.up h_o0) (by decide) q1548
                      have q1569 := J1560.keep (I1526.up h_o0) (by decide) q1549
                      have q1570 := J1560.keep (I1526.up h_o0) (by decide) q1550
                      have q1571 := J1560.keep t1534 (by decide) q1555
                      refine mv_iload_n d_Reader_term_130 rfl rfl ?_
                      have := mz_hi i1_18
                      refine mv_if_eqZ (tgt := 141) (a := i1_18.toInt) d_Reader_term_131 (by decide) rfl (fun b1572 => ?_) (fun b1572 => ?_)
                      · refine mv_iconst (v := 1) d_Reader_term_141 (by decide) ?_
                        exact mv_iret d_Reader_term_142 rfl (by decide) ⟨_, I1561, _, rfl, by decide, by decide, fun _ => q1571, (by have := (Im.o h40) (by omega); have := yC.d s19.2.2; have := yC.kn s19.2.2; have := (Im.o h1245) (by omega); have := yC.d s1227.2.2; have := yC.kn s1227.2.2; have eT : p_ter pb pn pa 0 (p_oc pb pn pa 0) ps = s1535 := (by have hop : p_oc pb pn pa 0 s19 = p_fl pb pn 4 s19 := rfl; have hX := e23.symm.trans (p_lp_stop (show (p_no1 pb pn) s19 = s19 from if_neg (fun h9 => by omega))); unfold p_ter; rw [hX]; unfold p_te1; unfold p_cmp; (try simp only [hop]); (try simp only [e1228, e1503, e1536]); ((repeat' (first | (with_reducible rfl) | split)) <;> (first | ((try simp only [e1228, e1503, e1536]); done) | (exfalso; omega)))); rw [eT]; exact ⟨⟨_, _, _, _, _, _, _, q1564, q1565, q1566, q1567, q1568, q1569, q1570, h1551, Im.o h1552, Im.o h1553⟩, (Or.inl ⟨by first | decide | omega, by omega⟩)⟩)⟩
                      · refine mv_aload_n d_Reader_term_134 rfl rfl ?_
                        refine mv_bipush (v := 8) d_Reader_term_135 (by decide) ?_
                        refine mv_iconst (v := 0) d_Reader_term_137 (by decide) ?_
                        obtain ⟨_, b1579, -⟩ := I1561.1 _ _ t1563
                        refine mv_callV (kc' := 0) (ks' := 0) (As := [.int 8, .int 0]) (st9 := [.int 0, .int 8, .ref o0]) d_Reader_term_138 lV_Reader_203 b1579 rfl (tc_Reader_emit (d := (d + 4)) (x9 := x9) (o0 := o0) (x1 := 8) (x2 := 0) t1563 I1561.start) rfl (Nat.le_of_ble_eq_true rfl) (Nat.le_of_ble_eq_true rfl) (Nat.le_of_ble_eq_true rfl) (hst := rfl) (fun b1573r M1574 n1575 b1573 => ?_)
                        obtain ⟨T1576, J1577, rfl⟩ := b1573
                        have I1578 := I1561.call J1577 (tm_sub (by decide)) (Or.inl rfl)
                        have t1580 := J1577.up t1563
                        have q1581 := J1577.keep t1563 (by decide) q1564
                        have q1582 := J1577.keep t1563 (by decide) q1565
                        have q1583 := J1577.keep t1563 (by decide) q1566
                        have q1584 := J1577.keep t1563 (by decide) q1567
                        have q1585 := J1577.keep t1563 (by decide) q1568
                        have q1586 := J1577.keep t1563 (by decide) q1569
                        have q1587 := J1577.keep t1563 (by decide) q1570
                        have q1588 := J1577.keep t1563 (by decide) q1571
                        refine mv_iconst (v := 1) d_Reader_term_141 (by decide) ?_
                        exact mv_iret d_Reader_term_142 rfl (by decide) ⟨_, I1578, _, rfl, by decide, by decide, fun _ => q1588, (by have := (Im.o h40) (by omega); have := yC.d s19.2.2; have := yC.kn s19.2.2; have := (Im.o h1245) (by omega); have := yC.d s1227.2.2; have := yC.kn s1227.2.2; have eT : p_ter pb pn pa 0 (p_oc pb pn pa 0) ps = s1535 := (by have hop : p_oc pb pn pa 0 s19 = p_fl pb pn 4 s19 := rfl; have hX := e23.symm.trans (p_lp_stop (show (p_no1 pb pn) s19 = s19 from if_neg (fun h9 => by omega))); unfold p_ter; rw [hX]; unfold p_te1; unfold p_cmp; (try simp only [hop]); (try simp only [e1228, e1503, e1536]); ((repeat' (first | (with_reducible rfl) | split)) <;> (first | ((try simp only [e1228, e1503, e1536]); done) | (exfalso; omega)))); rw [eT]; exact ⟨⟨_, _, _, _, _, _, _, q1581, q1582, q1583, q1584, q1585, q1586, q1587, h1551, Im.o h1552, Im.o h1553⟩, (Or.inl ⟨by first | decide | omega, by omega⟩)⟩)⟩
                    · refine mv_iconst (v := 0) d_Reader_term_122 (by decide) ?_
                      exact mv_iret d_Reader_term_123 rfl (by decide) ⟨_, I1526, _, rfl, by decide, by decide, fun h => absurd h (by decide), (by have := (Im.o h40) (by omega); have := yC.d s19.2.2; have := yC.kn s19.2.2; have := (Im.o h1245) (by omega); have := yC.d s1227.2.2; have := yC.kn s1227.2.2; have hb : s1535.1 ≠ 0 := (by omega); have z1 : ∀ c, p_sg pb pn c s1535 = s1535 := (fun c => p_sg_Z s1535 hb); have z2 : ∀ c, p_wd pb pn c s1535 = s1535 := (fun c => p_wd_Z s1535 hb); have z3 : ∀ op, p_sum pb pn pa op s1535 = s1535 := (fun op => p_sum_Z s1535 hb); have z4 : ∀ r oc, p_con pb pn pa r oc s1535 = s1535 := (fun r oc => p_con_Z s1535 hb); have z5 : p_prt pb pn s1535 = s1535 := p_prt_Z s1535 hb; have eT : p_ter pb pn pa 0 (p_oc pb pn pa 0) ps = s1535 := (by have hop : p_oc pb pn pa 0 s19 = p_fl pb pn 4 s19 := rfl; have hX := e23.symm.trans (p_lp_stop (show (p_no1 pb pn) s19 = s19 from if_neg (fun h9 => by omega))); unfold p_ter; rw [hX]; unfold p_te1; unfold p_cmp; (try simp only [hop]); (try simp only [e1228, e1503, e1536, z1, z2, z3, z4, z5]); ((repeat' (first | (with_reducible rfl) | split)) <;> (first | ((try simp only [e1228, e1503, e1536, z1, z2, z3, z4, z5]); done) | (exfalso; omega)))); rw [eT]; exact ⟨⟨_, _, _, _, _, _, _, q1544, q1545, q1546, q1547, q1548, q1549, q1550, h1551, Im.o h1552, Im.o h1553⟩, (Or.inr ⟨by first | decide | omega, by omega⟩)⟩)⟩
              · refine mv_iconst (v := 0) d_Reader_term_93 (by decide) ?_
                exact mv_iret d_Reader_term_94 rfl (by decide) ⟨_, I1218, _, rfl, by decide, by decide, fun h => absurd h (by decide), (by have := (Im.o h40) (by omega); have := yC.d s19.2.2; have := yC.kn s19.2.2; have hb : s1227.1 ≠ 0 := (by omega); have z1 : ∀ c, p_sg pb pn c s1227 = s1227 := (fun c => p_sg_Z s1227 hb); have z2 : ∀ c, p_wd pb pn c s1227 = s1227 := (fun c => p_wd_Z s1227 hb); have z3 : ∀ op, p_sum pb pn pa op s1227 = s1227 := (fun op => p_sum_Z s1227 hb); have z4 : ∀ r oc, p_con pb pn pa r oc s1227 = s1227 := (fun r oc => p_con_Z s1227 hb); have z5 : p_prt pb pn s1227 = s1227 := p_prt_Z s1227 hb; have eT : p_ter pb pn pa 0 (p_oc pb pn pa 0) ps = s1227 := (by have hop : p_oc pb pn pa 0 s19 = p_fl pb pn 4 s19 := rfl; have hX := e23.symm.trans (p_lp_stop (show (p_no1 pb pn) s19 = s19 from if_neg (fun h9 => by omega))); unfold p_ter; rw [hX]; unfold p_te1; unfold p_cmp; (try simp only [hop]); (try simp only [e1228, z1, z2, z3, z4, z5]); ((repeat' (first | (with_reducible rfl) | split)) <;> (first | ((try simp only [e1228, z1, z2, z3, z4, z5]); done) | (exfalso; omega)))); rw [eT]; exact ⟨⟨_, _, _, _, _, _, _, q1236, q1237, q1238, q1239, q1240, q1241, q1242, h1243, Im.o h1244, Im.o h1245⟩, (Or.inr ⟨by first | decide | omega, by omega⟩)⟩)⟩
            · refine mv_iconst (v := 1) d_Reader_isSign_16 (by decide) ?_
              refine mv_goto (tgt := 21) d_Reader_isSign_17 (by decide) ?_
              refine mv_iret d_Reader_isSign_21 rfl (by decide) ?_
              refine mv_if_eq_f (tgt := 86) d_Reader_term_46 (by decide) (by decide) ?_
              refine mv_aload_n d_Reader_term_49 rfl rfl ?_
              obtain ⟨_, b1595, -⟩ := I_18.1 _ _ h_q0_18
              refine mv_callV (kc' := 0) (ks' := 0) (As := []) (st9 := [.ref o0]) d_Reader_term_50 lV_Reader_212 b1595 rfl (tc_Reader_openBracket_q0_x (d := (d + 3)) (x9 := x9) (o0 := o0) h_q0_18 (p := p) kp0_18 (by omega) (by first | omega | decide) (hK I_18) ⟨_, _, _, _, _, _, _, q31, q32, q33, q34, q35, q36, q37, h38, Im.o h39, Im.o h40⟩ (by omega) (by have := (Im.o h40) (by omega); have := yC.d s19.2.2; have := yC.kn s19.2.2; show p_ki pb pn s19.2.2 ≠ 0; omega) I_18.start) rfl (Nat.le_of_ble_eq_true rfl) (Nat.le_of_ble_eq_true rfl) (Nat.le_of_ble_eq_true rfl) (hst := rfl) (fun b1589r M1590 n1591 b1589 => ?_)
              obtain ⟨T1592, J1593, v1596, rfl, b1597, b1598, o1599, f1600, f1601⟩ := b1589
              have I1594 := I_18.call J1593 (tm_sub (by decide)) (Or.inl rfl)
              have t1602 := J1593.up h_q0_18
              obtain ⟨s1603, e1604⟩ : ∃ s9 : p_S, p_fl pb pn 4 s19 = s9 := ⟨_, rfl⟩
              rw [e1604] at f1600 f1601
              obtain ⟨v1605, v1606, v1607, v1608, v1609, v1610, v1611, q1612, q1613, q1614, q1615, q1616, q1617, q1618, h1619, h1620, h1621⟩ := f1600
              replace h1620 := Im.i h1620
              replace h1621 := Im.i h1621
              have := mz_hi v1596
              refine mv_if_eqZ (tgt := 63) (a := v1596.toInt) d_Reader_term_53 (by decide) rfl (fun b1622 => ?_) (fun b1622 => ?_)
              · refine mv_iconst (v := 0) d_Reader_term_63 (by decide) ?_
                exact mv_iret d_Reader_term_64 rfl (by decide) ⟨_, I1594, _, rfl, by decide, by decide, fun h => absurd h (by decide), (by have := (Im.o h40) (by omega); have := yC.d s19.2.2; have := yC.kn s19.2.2; have hb : s1603.1 ≠ 0 := (by omega); have z1 : ∀ c, p_sg pb pn c s1603 = s1603 := (fun c => p_sg_Z s1603 hb); have z2 : ∀ c, p_wd pb pn c s1603 = s1603 := (fun c => p_wd_Z s1603 hb); have z3 : ∀ op, p_sum pb pn pa op s1603 = s1603 := (fun op => p_sum_Z s1603 hb); have z4 : ∀ r oc, p_con pb pn pa r oc s1603 = s1603 := (fun r oc => p_con_Z s1603 hb); have z5 : p_prt pb pn s1603 = s1603 := p_prt_Z s1603 hb; have eT : p_ter pb pn pa 0 (p_oc pb pn pa 0) ps = s1603 := (by have hop : p_oc pb pn pa 0 s19 = p_fl pb pn 4 s19 := rfl; have hX := e23.symm.trans (p_lp_stop (show (p_no1 pb pn) s19 = s19 from if_neg (fun h9 => by omega))); unfold p_ter; rw [hX]; unfold p_te1; unfold p_cmp; (try simp only [hop]); (try simp only [e1604, z1, z2, z3, z4, z5]); ((repeat' (first | (with_reducible rfl) | split)) <;> (first | ((try simp only [e1604, z1, z2, z3, z4, z5]); done) | (exfalso; omega)))); rw [eT]; exact ⟨⟨_, _, _, _, _, _, _, q1612, q1613, q1614, q1615, q1616, q1617, q1618, h1619, Im.o h1620, Im.o h1621⟩, (Or.inr ⟨by first | decide | omega, by omega⟩)⟩)⟩
              · have := (o1599 (by omega)).1
                exfalso
                omega
        · refine mv_aload_n d_Reader_isWord_8 rfl rfl ?_
          refine tr_getK (k := 13) q37 d_Reader_isWord_9 f_Reader_241_9 ?_
          refine mv_iload_n d_Reader_isWord_12 rfl rfl ?_
          have := mz_hi v30
          refine mv_icmp_neZ (tgt := 20) (a := v30.toInt) (b := 30) d_Reader_isWord_13 (by decide) rfl (by decide) (fun b1624 => ?_) (fun b1624 => ?_)
          · refine mv_iconst (v := 0) d_Reader_isWord_20 (by decide) ?_
            refine mv_iret d_Reader_isWord_21 rfl (by decide) ?_
            refine mv_if_eq_t (tgt := 40) d_Reader_term_17 (by decide) (by decide) ?_
            refine mv_aload_n d_Reader_term_40 rfl rfl ?_
            refine mv_bipush (v := 91) d_Reader_term_41 (by decide) ?_
            obtain ⟨_, b1625, -⟩ := I_18.1 _ _ h_q0_18
            refine mv_callV (kc1 := 0) (ks1 := 0) (kc' := 0) (ks' := 0) (As := [.int 91]) (st9 := [.int 91, .ref o0]) d_Reader_term_43 lV_Reader_209 b1625 rfl (mj_enter (by decide) (Nat.le_of_ble_eq_true rfl) ?_) rfl (Nat.le_of_ble_eq_true rfl) (Nat.le_of_ble_eq_true rfl) (Nat.le_of_ble_eq_true rfl) (hst := rfl) (fun _ _ _ h => h)
            refine mv_aload_n d_Reader_isSign_0 rfl rfl ?_
            refine tr_getK (k := 10) q34 d_Reader_isSign_1 f_Reader_41_9 ?_
            refine mv_iconst (v := 3) d_Reader_isSign_4 (by decide) ?_
            have := mz_hi v27
            refine mv_icmp_neZ (tgt := 20) (a := v27.toInt) (b := 3) d_Reader_isSign_5 (by decide) rfl (by decide) (fun b1626 => ?_) (fun b1626 => absurd b1626 (by omega))
            refine mv_iconst (v := 0) d_Reader_isSign_20 (by decide) ?_
            refine mv_iret d_Reader_isSign_21 rfl (by decide) ?_
            refine mv_if_eq_t (tgt := 86) d_Reader_term_46 (by decide) (by decide) ?_
            refine mv_aload_n d_Reader_term_86 rfl rfl ?_
            obtain ⟨_, b1633, -⟩ := I_18.1 _ _ h_q0_18
            refine mv_callV (kc' := 0) (ks' := 0) (As := []) (st9 := [.ref o0]) d_Reader_term_87 lV_Reader_186 b1633 rfl (tc_Reader_sum_q0_x (d := d) (x9 := x9) (o0 := o0) h_q0_18 (p := p) kp0_18 (by omega) (by first | omega | decide) (hK I_18) ⟨_, _, _, _, _, _, _, q31, q32, q33, q34, q35, q36, q37, h38, Im.o h39, Im.o h40⟩ (by omega) I_18.start) rfl (Nat.le_of_ble_eq_true rfl) (Nat.le_of_ble_eq_true rfl) (Nat.le_of_ble_eq_true rfl) (hst := rfl) (fun b1627r M1628 n1629 b1627 => ?_)
            obtain ⟨T1630, J1631, v1634, rfl, b1635, b1636, o1637, f1638, f1639⟩ := b1627
            have I1632 := I_18.call J1631 (tm_sub (by decide)) (Or.inl rfl)
            have t1640 := J1631.up h_q0_18
            obtain ⟨s1641, e1642⟩ : ∃ s9 : p_S, p_sum pb pn pa (p_op pb pn pa 0) s19 = s9 := ⟨_, rfl⟩
            rw [e1642] at f1638 f1639
            obtain ⟨v1643, v1644, v1645, v1646, v1647, v1648, v1649, q1650, q1651, q1652, q1653, q1654, q1655, q1656, h1657, h1658, h1659⟩ := f1638
            replace h1658 := Im.i h1658
            replace h1659 := Im.i h1659
            have := mz_hi v1634
            refine mv_if_neZ (tgt := 95) (a := v1634.toInt) d_Reader_term_90 (by decide) rfl (fun b1660 => ?_) (fun b1660 => ?_)
            · have q1661 := o1637 (by omega)
              refine mv_aload_n d_Reader_term_95 rfl rfl ?_
              obtain ⟨_, b1662, -⟩ := I1632.1 _ _ t1640
              refine mv_callV (kc1 := 0) (ks1 := 0) (kc' := 0) (ks' := 0) (As := []) (st9 := [.ref o0]) d_Reader_term_96 lV_Reader_215 b1662 rfl (mj_enter (by decide) (Nat.le_of_ble_eq_true rfl) ?_) rfl (Nat.le_of_ble_eq_true rfl) (Nat.le_of_ble_eq_true rfl) (Nat.le_of_ble_eq_true rfl) (hst := rfl) (fun _ _ _ h => h)
              refine mv_aload_n d_Reader_comparisonHere_0 rfl rfl ?_
              refine mv_bipush (v := 60) d_Reader_comparisonHere_1 (by decide) ?_
              obtain ⟨_, b1663, -⟩ := I1632.1 _ _ t1640
              refine mv_callV (kc1 := 0) (ks1 := 0) (kc' := 0) (ks' := 0) (As := [.int 60]) (st9 := [.int 60, .ref o0]) d_Reader_comparisonHere_3 lV_Reader_209 b1663 rfl (mj_enter (by decide) (Nat.le_of_ble_eq_true rfl) ?_) rfl (Nat.le_of_ble_eq_true rfl) (Nat.le_of_ble_eq_true rfl) (Nat.le_of_ble_eq_true rfl) (hst := rfl) (fun _ _ _ h => h)
              refine mv_aload_n d_Reader_isSign_0 rfl rfl ?_
              refine tr_getK (k := 10) q1653 d_Reader_isSign_1 f_Reader_41_9 ?_
              refine mv_iconst (v := 3) d_Reader_isSign_4 (by decide) ?_
              have := mz_hi v1646
              refine mv_icmp_neZ (tgt := 20) (a := v1646.toInt) (b := 3) d_Reader_isSign_5 (by decide) rfl (by decide) (fun b1664 => ?_) (fun b1664 => ?_)
              · refine mv_iconst (v := 0) d_Reader_isSign_20 (by decide) ?_
                refine mv_iret d_Reader_isSign_21 rfl (by decide) ?_
                refine mv_if_eq_t (tgt := 11) d_Reader_comparisonHere_6 (by decide) (by decide) ?_
                refine mv_aload_n d_Reader_comparisonHere_11 rfl rfl ?_
                refine mv_bipush (v := 62) d_Reader_comparisonHere_12 (by decide) ?_
                obtain ⟨_, b1665, -⟩ := I1632.1 _ _ t1640
                refine mv_callV (kc1 := 0) (ks1 := 0) (kc' := 0) (ks' := 0) (As := [.int 62]) (st9 := [.int 62, .ref o0]) d_Reader_comparisonHere_14 lV_Reader_209 b1665 rfl (mj_enter (by decide) (Nat.le_of_ble_eq_true rfl) ?_) rfl (Nat.le_of_ble_eq_true rfl) (Nat.le_of_ble_eq_true rfl) (Nat.le_of_ble_eq_true rfl) (hst := rfl) (fun _ _ _ h => h)
                refine mv_aload_n d_Reader_isSign_0 rfl rfl ?_
                refine tr_getK (k := 10) q1653 d_Reader_isSign_1 f_Reader_41_9 ?_
                refine mv_iconst (v := 3) d_Reader_isSign_4 (by decide) ?_
                have := mz_hi v1646
                refine mv_icmp_neZ (tgt := 20) (a := v1646.toInt) (b := 3) d_Reader_isSign_5 (by decide) rfl (by decide) (fun b1666 => ?_) (fun b1666 => absurd b1666 (by omega))
                refine mv_iconst (v := 0) d_Reader_isSign_20 (by decide) ?_
                refine mv_iret d_Reader_isSign_21 rfl (by decide) ?_
                refine mv_if_eq_t (tgt := 23) d_Reader_comparisonHere_17 (by decide) (by decide) ?_
                refine mv_aload_n d_Reader_comparisonHere_23 rfl rfl ?_
                refine mv_bipush (v := 61) d_Reader_comparisonHere_24 (by decide) ?_
                obtain ⟨_, b1667, -⟩ := I1632.1 _ _ t1640
                refine mv_callV (kc1 := 0) (ks1 := 0) (kc' := 0) (ks' := 0) (As := [.int 61]) (st9 := [.int 61, .ref o0]) d_Reader_comparisonHere_26 lV_Reader_209 b1667 rfl (mj_enter (by decide) (Nat.le_of_ble_eq_true rfl) ?_) rfl (Nat.le_of_ble_eq_true rfl) (Nat.le_of_ble_eq_true rfl) (Nat.le_of_ble_eq_true rfl) (hst := rfl) (fun _ _ _ h => h)
                refine mv_aload_n d_Reader_isSign_0 rfl rfl ?_
                refine tr_getK (k := 10) q1653 d_Reader_isSign_1 f_Reader_41_9 ?_
                refine mv_iconst (v := 3) d_Reader_isSign_4 (by decide) ?_
                have := mz_hi v1646
                refine mv_icmp_neZ (tgt := 20) (a := v1646.toInt) (b := 3) d_Reader_isSign_5 (by decide) rfl (by decide) (fun b1668 => ?_) (fun b1668 => absurd b1668 (by omega))
                refine mv_iconst (v := 0) d_Reader_isSign_20 (by decide) ?_
                refine mv_iret d_Reader_isSign_21 rfl (by decide) ?_
                refine mv_if_eq_t (tgt := 37) d_Reader_comparisonHere_29 (by decide) (by decide) ?_
                refine mv_iconst (v := (-1)) d_Reader_comparisonHere_37 (by decide) ?_
                refine mv_iret d_Reader_comparisonHere_38 rfl (by first | rfl | decide) ?_
                refine mv_istore_n (lv' := [(2, .int (-1)), (1, .int i1_18), (0, .ref o0)]) d_Reader_term_99 rfl (by decide) rfl ?_
                refine mv_iload_n d_Reader_term_100 rfl rfl ?_
                refine mv_iconst (v := (-1)) d_Reader_term_101 (by decide) ?_
                refine mv_icmp_ne_f (tgt := 111) d_Reader_term_102 (by decide) (by decide) ?_
                refine mv_aload_n d_Reader_term_105 rfl rfl ?_
                refine mv_iconst (v := 1) d_Reader_term_106 (by decide) ?_
                obtain ⟨_, b1669, -⟩ := I1632.1 _ _ t1640
                refine mv_callV (kc1 := 0) (ks1 := 0) (kc' := 0) (ks' := 0) (As := [.int 1]) (st9 := [.int 1, .ref o0]) d_Reader_term_107 lV_Reader_56 b1669 rfl (mj_enter (by decide) (Nat.le_of_ble_eq_true rfl) ?_) rfl (Nat.le_of_ble_eq_true rfl) (Nat.le_of_ble_eq_true rfl) (Nat.le_of_ble_eq_true rfl) (hst := rfl) (fun _ _ _ h => h)
                refine mv_aload_n d_Reader_refuse_0 rfl rfl ?_
                refine mv_iload_n d_Reader_refuse_1 rfl rfl ?_
                refine tr_putK tm_okF I1632 t1640 (k := 1) rfl ⟨_, rfl⟩ (Or.inl (by decide)) d_Reader_refuse_2 p_Reader_70_9 rfl rfl (fun M1670 I1671 q1672 K1673 => ?_)
                refine mv_aload_n d_Reader_refuse_5 rfl rfl ?_
                refine mv_aload_n d_Reader_refuse_6 rfl rfl ?_
                refine tr_getK (k := 11) (K1673 _ 9 11 _ rfl q1654) d_Reader_refuse_7 f_Reader_175_9 ?_
                refine tr_putK tm_okF I1671 t1640 (k := 2) rfl ⟨_, rfl⟩ (Or.inl (by decide)) d_Reader_refuse_10 p_Reader_11_9 rfl rfl (fun M1674 I1675 q1676 K1677 => ?_)
                refine mv_iconst (v := 0) d_Reader_refuse_13 (by decide) ?_
                obtain ⟨s1678, e1679⟩ : ∃ s9 : p_S, p_fl pb pn 1 s1641 = s9 := ⟨_, rfl⟩
                have h1680 := q_fl e1679 (by omega) (by decide)
                have h1681 : (1 : Int32).toInt = s1678.1 := (by have e9 : (1 : Int32).toInt = 1 := (by decide); omega)
                have h1682 : Im (s1678.1 ≠ 0 → v1647.toInt = (s1678.2.1 : Int)) := Im.i (fun _ => by have := (Im.o h1659) (by omega); omega)
                have h1683 : Im (s1678.1 = 0 → v1645.toInt = (s1678.2.2 : Int) ∧ v1646.toInt = p_ki pb pn s1678.2.2 ∧ v1647.toInt = (p_st pb pn s1678.2.2 : Int) ∧ v1648.toInt = (p_sp pb pn s1678.2.2 : Int) ∧ v1649.toInt = p_va pb pn s1678.2.2 ∧ v1647.toInt = -1) := Im.i (fun z9 => absurd z9 h1680.2.2)
                refine mv_iret d_Reader_refuse_14 rfl (by decide) ?_
                exact mv_iret d_Reader_term_110 rfl (by decide) ⟨_, I1675, _, rfl, by decide, by decide, fun h => absurd h (by decide), (by have := (Im.o h40) (by omega); have := yC.d s19.2.2; have := yC.kn s19.2.2; have := (Im.o h1659) (by omega); have := yC.d s1641.2.2; have := yC.kn s1641.2.2; have hb : s1678.1 ≠ 0 := (by omega); have z1 : ∀ c, p_sg pb pn c s1678 = s1678 := (fun c => p_sg_Z s1678 hb); have z2 : ∀ c, p_wd pb pn c s1678 = s1678 := (fun c => p_wd_Z s1678 hb); have z3 : ∀ op, p_sum pb pn pa op s1678 = s1678 := (fun op => p_sum_Z s1678 hb); have z4 : ∀ r oc, p_con pb pn pa r oc s1678 = s1678 := (fun r oc => p_con_Z s1678 hb); have z5 : p_prt pb pn s1678 = s1678 := p_prt_Z s1678 hb; have eT : p_ter pb pn pa 0 (p_oc pb pn pa 0) ps = s1678 := (by have hop : p_oc pb pn pa 0 s19 = p_fl pb pn 4 s19 := rfl; have hX := e23.symm.trans (p_lp_stop (show (p_no1 pb pn) s19 = s19 from if_neg (fun h9 => by omega))); unfold p_ter; rw [hX]; unfold p_te1; unfold p_cmp; (try simp only [hop]); (try simp only [e1642, e1679, z1, z2, z3, z4, z5]); ((repeat' (first | (with_reducible rfl) | split)) <;> (first | ((try simp only [e1642, e1679, z1, z2, z3, z4, z5]); done) | (exfalso; omega)))); rw [eT]; exact ⟨⟨_, _, _, _, _, _, _, (K1677 _ 9 1 _ rfl q1672), q1676, (K1677 _ 9 9 _ rfl (K1673 _ 9 9 _ rfl q1652)), (K1677 _ 9 10 _ rfl (K1673 _ 9 10 _ rfl q1653)), (K1677 _ 9 11 _ rfl (K1673 _ 9 11 _ rfl q1654)), (K1677 _ 9 12 _ rfl (K1673 _ 9 12 _ rfl q1655)), (K1677 _ 9 13 _ rfl (K1673 _ 9 13 _ rfl q1656)), h1681, Im.o h1682, Im.o h1683⟩, (Or.inr ⟨by first | decide | omega, by omega⟩)⟩)⟩
              · refine mv_aload_n d_Reader_isSign_8 rfl rfl ?_
                refine tr_getK (k := 13) q1656 d_Reader_isSign_9 f_Reader_241_9 ?_
                refine mv_iload_n d_Reader_isSign_12 rfl rfl ?_
                have := mz_hi v1649
                refine mv_icmp_neZ (tgt := 20) (a := v1649.toInt) (b := 60) d_Reader_isSign_13 (by decide) rfl (by decide) (fun b1684 => ?_) (fun b1684 => ?_)
                · refine mv_iconst (v := 0) d_Reader_isSign_20 (by decide) ?_
                  refine mv_iret d_Reader_isSign_21 rfl (by decide) ?_
                  refine mv_if_eq_t (tgt := 11) d_Reader_comparisonHere_6 (by decide) (by decide) ?_
                  refine mv_aload_n d_Reader_comparisonHere_11 rfl rfl ?_
                  refine mv_bipush (v := 62) d_Reader_comparisonHere_12 (by decide) ?_
                  obtain ⟨_, b1685, -⟩ := I1632.1 _ _ t1640
                  refine mv_callV (kc1 := 0) (ks1 := 0) (kc' := 0) (ks' := 0) (As := [.int 62]) (st9 := [.int 62, .ref o0]) d_Reader_comparisonHere_14 lV_Reader_209 b1685 rfl (mj_enter (by decide) (Nat.le_of_ble_eq_true rfl) ?_) rfl (Nat.le_of_ble_eq_true rfl) (Nat.le_of_ble_eq_true rfl) (Nat.le_of_ble_eq_true rfl) (hst := rfl) (fun _ _ _ h => h)
                  refine mv_aload_n d_Reader_isSign_0 rfl rfl ?_
                  refine tr_getK (k := 10) q1653 d_Reader_isSign_1 f_Reader_41_9 ?_
                  refine mv_iconst (v := 3) d_Reader_isSign_4 (by decide) ?_
                  have := mz_hi v1646
                  refine mv_icmp_neZ (tgt := 20) (a := v1646.toInt) (b := 3) d_Reader_isSign_5 (by decide) rfl (by decide) (fun b1686 => absurd b1686 (by omega)) (fun b1686 => ?_)
                  refine mv_aload_n d_Reader_isSign_8 rfl rfl ?_
                  refine tr_getK (k := 13) q1656 d_Reader_isSign_9 f_Reader_241_9 ?_
                  refine mv_iload_n d_Reader_isSign_12 rfl rfl ?_
                  have := mz_hi v1649
                  refine mv_icmp_neZ (tgt := 20) (a := v1649.toInt) (b := 62) d_Reader_isSign_13 (by decide) rfl (by decide) (fun b1687 => ?_) (fun b1687 => ?_)
                  · refine mv_iconst (v := 0) d_Reader_isSign_20 (by decide) ?_
                    refine mv_iret d_Reader_isSign_21 rfl (by decide) ?_
                    refine mv_if_eq_t (tgt := 23) d_Reader_comparisonHere_17 (by decide) (by decide) ?_
                    refine mv_aload_n d_Reader_comparisonHere_23 rfl rfl ?_
                    refine mv_bipush (v := 61) d_Reader_comparisonHere_24 (by decide) ?_
                    obtain ⟨_, b1688, -⟩ := I1632.1 _ _ t1640
                    refine mv_callV (kc1 := 0) (ks1 := 0) (kc' := 0) (ks' := 0) (As := [.int 61]) (st9 := [.int 61, .ref o0]) d_Reader_comparisonHere_26 lV_Reader_209 b1688 rfl (mj_enter (by decide) (Nat.le_of_ble_eq_true rfl) ?_) rfl (Nat.le_of_ble_eq_true rfl) (Nat.le_of_ble_eq_true rfl) (Nat.le_of_ble_eq_true rfl) (hst := rfl) (fun _ _ _ h => h)
                    refine mv_aload_n d_Reader_isSign_0 rfl rfl ?_
                    refine tr_getK (k := 10) q1653 d_Reader_isSign_1 f_Reader_41_9 ?_
                    refine mv_iconst (v := 3) d_Reader_isSign_4 (by decide) ?_
                    have := mz_hi v1646
                    refine mv_icmp_neZ (tgt := 20) (a := v1646.toInt) (b := 3) d_Reader_isSign_5 (by decide) rfl (by decide) (fun b1689 => absurd b1689 (by omega)) (fun b1689 => ?_)
                    refine mv_aload_n d_Reader_isSign_8 rfl rfl ?_
                    refine tr_getK (k := 13) q1656 d_Reader_isSign_9 f_Reader_241_9 ?_
                    refine mv_iload_n d_Reader_isSign_12 rfl rfl ?_
                    have := mz_hi v1649
                    refine mv_icmp_neZ (tgt := 20) (a := v1649.toInt) (b := 61) d_Reader_isSign_13 (by decide) rfl (by decide) (fun b1690 => ?_) (fun b1690 => ?_)
                    · refine mv_iconst (v := 0) d_Reader_isSign_20 (by decide) ?_
                      refine mv_iret d_Reader_isSign_21 rfl (by decide) ?_
                      refine mv_if_eq_t (tgt := 37) d_Reader_comparisonHere_29 (by decide) (by decide) ?_
                      refine mv_iconst (v := (-1)) d_Reader_comparisonHere_37 (by decide) ?_
                      refine mv_iret d_Reader_comparisonHere_38 rfl (by first | rfl | decide) ?_
                      refine mv_istore_n (lv' := [(2, .int (-1)), (1, .int i1_18), (0, .ref o0)]) d_Reader_term_99 rfl (by decide) rfl ?_
                      refine mv_iload_n d_Reader_term_100 rfl rfl ?_
                      refine mv_iconst (v := (-1)) d_Reader_term_101 (by decide) ?_
                      refine mv_icmp_ne_f (tgt := 111) d_Reader_term_102 (by decide) (by decide) ?_
                      refine mv_aload_n d_Reader_term_105 rfl rfl ?_
                      refine mv_iconst (v := 1) d_Reader_term_106 (by decide) ?_
                      obtain ⟨_, b1691, -⟩ := I1632.1 _ _ t1640
                      refine mv_callV (kc1 := 0) (ks1 := 0) (kc' := 0) (ks' := 0) (As := [.int 1]) (st9 := [.int 1, .ref o0]) d_Reader_term_107 lV_Reader_56 b1691 rfl (mj_enter (by decide) (Nat.le_of_ble_eq_true rfl) ?_) rfl (Nat.le_of_ble_eq_true rfl) (Nat.le_of_ble_eq_true rfl) (Nat.le_of_ble_eq_true rfl) (hst := rfl) (fun _ _ _ h => h)
                      refine mv_aload_n d_Reader_refuse_0 rfl rfl ?_
                      refine mv_iload_n d_Reader_refuse_1 rfl rfl ?_
                      refine tr_putK tm_okF I1632 t1640 (k := 1) rfl ⟨_, rfl⟩ (Or.inl (by decide)) d_Reader_refuse_2 p_Reader_70_9 rfl rfl (fun M1692 I1693 q1694 K1695 => ?_)
                      refine mv_aload_n d_Reader_refuse_5 rfl rfl ?_
                      refine mv_aload_n d_Reader_refuse_6 rfl rfl ?_
                      refine tr_getK (k := 11) (K1695 _ 9 11 _ rfl q1654) d_Reader_refuse_7 f_Reader_175_9 ?_
                      refine tr_putK tm_okF I1693 t1640 (k := 2) rfl ⟨_, rfl⟩ (Or.inl (by decide)) d_Reader_refuse_10 p_Reader_11_9 rfl rfl (fun M1696 I1697 q1698 K1699 => ?_)
                      refine mv_iconst (v := 0) d_Reader_refuse_13 (by decide) ?_
                      obtain ⟨s1700, e1701⟩ : ∃ s9 : p_S, p_fl pb pn 1 s1641 = s9 := ⟨_, rfl⟩
                      have h1702 := q_fl e1701 (by omega) (by decide)
                      have h1703 : (1 : Int32).toInt = s1700.1 := (by have e9 : (1 : Int32).toInt = 1 := (by decide); omega)
                      have h1704 : Im (s1700.1 ≠ 0 → v1647.toInt = (s1700.2.1 : Int)) := Im.i (fun _ => by have := (Im.o h1659) (by omega); omega)
                      have h1705 : Im (s1700.1 = 0 → v1645.toInt = (s1700.2.2 : Int) ∧ v1646.toInt = p_ki pb pn s1700.2.2 ∧ v1647.toInt = (p_st pb pn s1700.2.2 : Int) ∧ v1648.toInt = (p_sp pb pn s1700.2.2 : Int) ∧ v1649.toInt = p_va pb pn s1700.2.2 ∧ v1647.toInt = -1) := Im.i (fun z9 => absurd z9 h1702.2.2)
                      refine mv_iret d_Reader_refuse_14 rfl (by decide) ?_
                      exact mv_iret d_Reader_term_110 rfl (by decide) ⟨_, I1697, _, rfl, by decide, by decide, fun h => absurd h (by decide), (by have := (Im.o h40) (by omega); have := yC.d s19.2.2; have := yC.kn s19.2.2; have := (Im.o h1659) (by omega); have := yC.d s1641.2.2; have := yC.kn s1641.2.2; have hb : s1700.1 ≠ 0 := (by omega); have z1 : ∀ c, p_sg pb pn c s1700 = s1700 := (fun c => p_sg_Z s1700 hb); have z2 : ∀ c, p_wd pb pn c s1700 = s1700 := (fun c => p_wd_Z s1700 hb); have z3 : ∀ op, p_sum pb pn pa op s1700 = s1700 := (fun op => p_sum_Z s1700 hb); have z4 : ∀ r oc, p_con pb pn pa r oc s1700 = s1700 := (fun r oc => p_con_Z s1700 hb); have z5 : p_prt pb pn s1700 = s1700 := p_prt_Z s1700 hb; have eT : p_ter pb pn pa 0 (p_oc pb pn pa 0) ps = s1700 := (by have hop : p_oc pb pn pa 0 s19 = p_fl pb pn 4 s19 := rfl; have hX := e23.symm.trans (p_lp_stop (show (p_no1 pb pn) s19 = s19 from if_neg (fun h9 => by omega))); unfold p_ter; rw [hX]; unfold p_te1; unfold p_cmp; (try simp only [hop]); (try simp only [e1642, e1701, z1, z2, z3, z4, z5]); ((repeat' (first | (with_reducible rfl) | split)) <;> (first | ((try simp only [e1642, e1701, z1, z2, z3, z4, z5]); done) | (exfalso; omega)))); rw [eT]; exact ⟨⟨_, _, _, _, _, _, _, (K1699 _ 9 1 _ rfl q1694), q1698, (K1699 _ 9 9 _ rfl (K1695 _ 9 9 _ rfl q1652)), (K1699 _ 9 10 _ rfl (K1695 _ 9 10 _ rfl q1653)), (K1699 _ 9 11 _ rfl (K1695 _ 9 11 _ rfl q1654)), (K1699 _ 9 12 _ rfl (K1695 _ 9 12 _ rfl q1655)), (K1699 _ 9 13 _ rfl (K1695 _ 9 13 _ rfl q1656)), h1703, Im.o h1704, Im.o h1705⟩, (Or.inr ⟨by first | decide | omega, by omega⟩)⟩)⟩
                    · refine mv_iconst (v := 1) d_Reader_isSign_16 (by decide) ?_
                      refine mv_goto (tgt := 21) d_Reader_isSign_17 (by decide) ?_
                      refine mv_iret d_Reader_isSign_21 rfl (by decide) ?_
                      refine mv_if_eq_f (tgt := 37) d_Reader_comparisonHere_29 (by decide) (by decide) ?_
                      refine mv_bipush (v := 7) d_Reader_comparisonHere_32 (by decide) ?_
                      refine mv_goto (tgt := 38) d_Reader_comparisonHere_34 (by decide) ?_
                      refine mv_iret d_Reader_comparisonHere_38 rfl (by first | rfl | decide) ?_
                      refine mv_istore_n (lv' := [(2, .int 7), (1, .int i1_18), (0, .ref o0)]) d_Reader_term_99 rfl (by decide) rfl ?_
                      refine mv_iload_n d_Reader_term_100 rfl rfl ?_
                      refine mv_iconst (v := (-1)) d_Reader_term_101 (by decide) ?_
                      refine mv_icmp_ne_t (tgt := 111) d_Reader_term_102 (by decide) (by decide) ?_
                      refine mv_aload_n d_Reader_term_111 rfl rfl ?_
                      obtain ⟨_, b1712, -⟩ := I1632.1 _ _ t1640
                      refine mv_callV (kc' := 0) (ks' := 0) (As := []) (st9 := [.ref o0]) d_Reader_term_112 lV_Reader_82 b1712 rfl (tc_Reader_advance_x (d := (d + 4)) (x9 := x9) (o0 := o0) t1640 (hK I1632) (qS.a (show qS M1628 o0 pb pn s1641 from ⟨_, _, _, _, _, _, _, q1650, q1651, q1652, q1653, q1654, q1655, q1656, h1657, Im.o h1658, Im.o h1659⟩)) (by have := (Im.o h40) (by omega); have := yC.d s19.2.2; have := yC.kn s19.2.2; have := (Im.o h1659) (by omega); have := yC.d s1641.2.2; have := yC.kn s1641.2.2; show s1641.2.2 + 1 ≤ 401; omega) I1632.start) rfl (Nat.le_of_ble_eq_true rfl) (Nat.le_of_ble_eq_true rfl) (Nat.le_of_ble_eq_true rfl) (hst := rfl) (fun b1706r M1707 n1708 b1706 => ?_)
                      obtain ⟨T1709, J1710, rfl, f1713⟩ := b1706
                      have I1711 := I1632.call J1710 (tm_sub (by decide)) (Or.inl rfl)
                      have t1714 := J1710.up t1640
                      have q1715 := J1710.keep (I1632.up h_o0) (by decide) q1650
                      have q1716 := J1710.keep (I1632.up h_o0) (by decide) q1651
                      have q1717 := J1710.keep t1640 (by decide) q1661
                      obtain ⟨s1718, e1719⟩ : ∃ s9 : p_S, p_nx s1641 = s9 := ⟨_, rfl⟩
                      rw [e1719] at f1713
                      have : s1718.1 = 0 := by rw [← e1719]; show s1641.1 = 0; omega
                      obtain ⟨v1720, v1721, v1722, v1723, v1724, v1725, v1726, q1727, q1728, q1729, q1730, q1731, q1732, q1733, h1734, h1735, h1736⟩ := f1713
                      replace h1735 := Im.i h1735
                      replace h1736 := Im.i h1736
                      refine mv_aload_n d_Reader_term_115 rfl rfl ?_
                      obtain ⟨_, b1743, -⟩ := I1711.1 _ _ t1714
                      refine mv_callV (kc' := 0) (ks' := 0) (As := []) (st9 := [.ref o0]) d_Reader_term_116 lV_Reader_186 b1743 rfl (tc_Reader_sum_q0_x (d := d) (x9 := x9) (o0 := o0) t1714 (p := p) q1717 (by omega) (by first | omega | decide) (hK I1711) ⟨_, _, _, _, _, _, _, q1727, q1728, q1729, q1730, q1731, q1732, q1733, h1734, Im.o h1735, Im.o h1736⟩ (by omega) I1711.start) rfl (Nat.le_of_ble_eq_true rfl) (Nat.le_of_ble_eq_true rfl) (Nat.le_of_ble_eq_true rfl) (hst := rfl) (fun b1737r M1738 n1739 b1737 => ?_)
                      obtain ⟨T1740, J1741, v1744, rfl, b1745, b1746, o1747, f1748, f1749⟩ := b1737
                      have I1742 := I1711.call J1741 (tm_sub (by decide)) (Or.inl rfl)
                      have t1750 := J1741.up t1714
                      obtain ⟨s1751, e1752⟩ : ∃ s9 : p_S, p_sum pb pn pa (p_op pb pn pa 0) s1718 = s9 := ⟨_, rfl⟩
                      rw [e1752] at f1748 f1749
                      obtain ⟨v1753, v1754, v1755, v1756, v1757, v1758, v1759, q1760, q1761, q1762, q1763, q1764, q1765, q1766, h1767, h1768, h1769⟩ := f1748
                      replace h1768 := Im.i h1768
                      replace h1769 := Im.i h1769
                      have := mz_hi v1744
                      refine mv_if_neZ (tgt := 124) (a := v1744.toInt) d_Reader_term_119 (by decide) rfl (fun b1770 => ?_) (fun b1770 => ?_)
                      · have q1771 := o1747 (by omega)
                        refine mv_aload_n d_Reader_term_124 rfl rfl ?_
                        refine mv_iload_n d_Reader_term_125 rfl rfl ?_
                        refine mv_iconst (v := 0) d_Reader_term_126 (by decide) ?_
                        obtain ⟨_, b1778, -⟩ := I1742.1 _ _ t1750
                        refine mv_callV (kc' := 0) (ks' := 0) (As := [.int 7, .int 0]) (st9 := [.int 0, .int 7, .ref o0]) d_Reader_term_127 lV_Reader_203 b1778 rfl (tc_Reader_emit (d := (d + 4)) (x9 := x9) (o0 := o0) (x1 := 7) (x2 := 0) t1750 I1742.start) rfl (Nat.le_of_ble_eq_true rfl) (Nat.le_of_ble_eq_true rfl) (Nat.le_of_ble_eq_true rfl) (hst := rfl) (fun b1772r M1773 n1774 b1772 => ?_)
                        obtain ⟨T1775, J1776, rfl⟩ := b1772
                        have I1777 := I1742.call J1776 (tm_sub (by decide)) (Or.inl rfl)
                        have t1779 := J1776.up t1750
                        have q1780 := J1776.keep (I1742.up h_o0) (by decide) q1760
                        have q1781 := J1776.keep (I1742.up h_o0) (by decide) q1761
                        have q1782 := J1776.keep (I1742.up h_o0) (by decide) q1762
                        have q1783 := J1776.keep (I1742.up h_o0) (by decide) q1763
                        have q1784 := J1776.keep (I1742.up h_o0) (by decide) q1764
                        have q1785 := J1776.keep (I1742.up h_o0) (by decide) q1765
                        have q1786 := J1776.keep (I1742.up h_o0) (by decide) q1766
                        have q1787 := J1776.keep t1750 (by decide) q1771
                        refine mv_iload_n d_Reader_term_130 rfl rfl ?_
                        have := mz_hi i1_18
                        refine mv_if_eqZ (tgt := 141) (a := i1_18.toInt) d_Reader_term_131 (by decide) rfl (fun b1788 => ?_) (fun b1788 => ?_)
                        · refine mv_iconst (v := 1) d_Reader_term_141 (by decide) ?_
                          exact mv_iret d_Reader_term_142 rfl (by decide) ⟨_, I1777, _, rfl, by decide, by decide, fun _ => q1787, (by have := (Im.o h40) (by omega); have := yC.d s19.2.2; have := yC.kn s19.2.2; have := (Im.o h1659) (by omega); have := yC.d s1641.2.2; have := yC.kn s1641.2.2; have eT : p_ter pb pn pa 0 (p_oc pb pn pa 0) ps = s1751 := (by have hop : p_oc pb pn pa 0 s19 = p_fl pb pn 4 s19 := rfl; have hX := e23.symm.trans (p_lp_stop (show (p_no1 pb pn) s19 = s19 from if_neg (fun h9 => by omega))); unfold p_ter; rw [hX]; unfold p_te1; unfold p_cmp; (try simp only [hop]); (try simp only [e1642, e1719, e1752]); ((repeat' (first | (with_reducible rfl) | split)) <;> (first | ((try simp only [e1642, e1719, e1752]); done) | (exfalso; omega)))); rw [eT]; exact ⟨⟨_, _, _, _, _, _, _, q1780, q1781, q1782, q1783, q1784, q1785, q1786, h1767, Im.o h1768, Im.o h1769⟩, (Or.inl ⟨by first | decide | omega, by omega⟩)⟩)⟩
                        · refine mv_aload_n d_Reader_term_134 rfl rfl ?_
                          refine mv_bipush (v := 8) d_Reader_term_135 (by decide) ?_
                          refine mv_iconst (v := 0) d_Reader_term_137 (by decide) ?_
                          obtain ⟨_, b1795, -⟩ := I1777.1 _ _ t1779
                          refine mv_callV (kc' := 0) (ks' := 0) (As := [.int 8, .int 0]) (st9 := [.int 0, .int 8, .ref o0]) d_Reader_term_138 lV_Reader_203 b1795 rfl (tc_Reader_emit (d := (d + 4)) (x9 := x9) (o0 := o0) (x1 := 8) (x2 := 0) t1779 I1777.start) rfl (Nat.le_of_ble_eq_true rfl) (Nat.le_of_ble_eq_true rfl) (Nat.le_of_ble_eq_true rfl) (hst := rfl) (fun b1789r M1790 n1791 b1789 => ?_)
                          obtain ⟨T1792, J1793, rfl⟩ := b1789
                          have I1794 := I1777.call J1793 (tm_sub (by decide)) (Or.inl rfl)
                          have t1796 := J1793.up t1779
                          have q1797 := J1793.keep t1779 (by decide) q1780
                          have q1798 := J1793.keep t1779 (by decide) q1781
                          have q1799 := J1793.keep t1779 (by decide) q1782
                          have q1800 := J1793.keep t1779 (by decide) q1783
                          have q1801 := J1793.keep t1779 (by decide) q1784
                          have q1802 := J1793.keep t1779 (by decide) q1785
                          have q1803 := J1793.keep t1779 (by decide) q1786
                          have q1804 := J1793.keep t1779 (by decide) q1787
                          refine mv_iconst (v := 1) d_Reader_term_141 (by decide) ?_
                          exact mv_iret d_Reader_term_142 rfl (by decide) ⟨_, I1794, _, rfl, by decide, by decide, fun _ => q1804, (by have := (Im.o h40) (by omega); have := yC.d s19.2.2; have := yC.kn s19.2.2; have := (Im.o h1659) (by omega); have := yC.d s1641.2.2; have := yC.kn s1641.2.2; have eT : p_ter pb pn pa 0 (p_oc pb pn pa 0) ps = s1751 := (by have hop : p_oc pb pn pa 0 s19 = p_fl pb pn 4 s19 := rfl; have hX := e23.symm.trans (p_lp_stop (show (p_no1 pb pn) s19 = s19 from if_neg (fun h9 => by omega))); unfold p_ter; rw [hX]; unfold p_te1; unfold p_cmp; (try simp only [hop]); (try simp only [e1642, e1719, e1752]); ((repeat' (first | (with_reducible rfl) | split)) <;> (first | ((try simp only [e1642, e1719, e1752]); done) | (exfalso; omega)))); rw [eT]; exact ⟨⟨_, _, _, _, _, _, _, q1797, q1798, q1799, q1800, q1801, q1802, q1803, h1767, Im.o h1768, Im.o h1769⟩, (Or.inl ⟨by first | decide | omega, by omega⟩)⟩)⟩
                      · refine mv_iconst (v := 0) d_Reader_term_122 (by decide) ?_
                        exact mv_iret d_Reader_term_123 rfl (by decide) ⟨_, I1742, _, rfl, by decide, by decide, fun h => absurd h (by decide), (by have := (Im.o h40) (by omega); have := yC.d s19.2.2; have := yC.kn s19.2.2; have := (Im.o h1659) (by omega); have := yC.d s1641.2.2; have := yC.kn s1641.2.2; have hb : s1751.1 ≠ 0 := (by omega); have z1 : ∀ c, p_sg pb pn c s1751 = s1751 := (fun c => p_sg_Z s1751 hb); have z2 : ∀ c, p_wd pb pn c s1751 = s1751 := (fun c => p_wd_Z s1751 hb); have z3 : ∀ op, p_sum pb pn pa op s1751 = s1751 := (fun op => p_sum_Z s1751 hb); have z4 : ∀ r oc, p_con pb pn pa r oc s1751 = s1751 := (fun r oc => p_con_Z s1751 hb); have z5 : p_prt pb pn s1751 = s1751 := p_prt_Z s1751 hb; have eT : p_ter pb pn pa 0 (p_oc pb pn pa 0) ps = s1751 := (by have hop : p_oc pb pn pa 0 s19 = p_fl pb pn 4 s19 := rfl; have hX := e23.symm.trans (p_lp_stop (show (p_no1 pb pn) s19 = s19 from if_neg (fun h9 => by omega))); unfold p_ter; rw [hX]; unfold p_te1; unfold p_cmp; (try simp only [hop]); (try simp only [e1642, e1719, e1752, z1, z2, z3, z4, z5]); ((repeat' (first | (with_reducible rfl) | split)) <;> (first | ((try simp only [e1642, e1719, e1752, z1, z2, z3, z4, z5]); done) | (exfalso; omega)))); rw [eT]; exact ⟨⟨_, _, _, _, _, _, _, q1760, q1761, q1762, q1763, q1764, q1765, q1766, h1767, Im.o h1768, Im.o h1769⟩, (Or.inr ⟨by first | decide | omega, by omega⟩)⟩)⟩
                  · refine mv_iconst (v := 1) d_Reader_isSign_16 (by decide) ?_
                    refine mv_goto (tgt := 21) d_Reader_isSign_17 (by decide) ?_
                    refine mv_iret d_Reader_isSign_21 rfl (by decide) ?_
                    refine mv_if_eq_f (tgt := 23) d_Reader_comparisonHere_17 (by decide) (by decide) ?_
                    refine mv_bipush (v := 6) d_Reader_comparisonHere_20 (by decide) ?_
                    refine mv_iret d_Reader_comparisonHere_22 rfl (by first | rfl | decide) ?_
                    refine mv_istore_n (lv' := [(2, .int 6), (1, .int i1_18), (0, .ref o0)]) d_Reader_term_99 rfl (by decide) rfl ?_
                    refine mv_iload_n d_Reader_term_100 rfl rfl ?_
                    refine mv_iconst (v := (-1)) d_Reader_term_101 (by decide) ?_
                    refine mv_icmp_ne_t (tgt := 111) d_Reader_term_102 (by decide) (by decide) ?_
                    refine mv_aload_n d_Reader_term_111 rfl rfl ?_
                    obtain ⟨_, b1811, -⟩ := I1632.1 _ _ t1640
                    refine mv_callV (kc' := 0) (ks' := 0) (As := []) (st9 := [.ref o0]) d_Reader_term_112 lV_Reader_82 b1811 rfl (tc_Reader_advance_x (d := (d + 4)) (x9 := x9) (o0 := o0) t1640 (hK I1632) (qS.a (show qS M1628 o0 pb pn s1641 from ⟨_, _, _, _, _, _, _, q1650, q1651, q1652, q1653, q1654, q1655, q1656, h1657, Im.o h1658, Im.o h1659⟩)) (by have := (Im.o h40) (by omega); have := yC.d s19.2.2; have := yC.kn s19.2.2; have := (Im.o h1659) (by omega); have := yC.d s1641.2.2; have := yC.kn s1641.2.2; show s1641.2.2 + 1 ≤ 401; omega) I1632.start) rfl (Nat.le_of_ble_eq_true rfl) (Nat.le_of_ble_eq_true rfl) (Nat.le_of_ble_eq_true rfl) (hst := rfl) (fun b1805r M1806 n1807 b1805 => ?_)
                    obtain ⟨T1808, J1809, rfl, f1812⟩ := b1805
                    have I1810 := I1632.call J1809 (tm_sub (by decide)) (Or.inl rfl)
                    have t1813 := J1809.up t1640
                    have q1814 := J1809.keep (I1632.up h_o0) (by decide) q1650
                    have q1815 := J1809.keep (I1632.up h_o0) (by decide) q1651
                    have q1816 := J1809.keep t1640 (by decide) q1661
                    obtain ⟨s1817, e1818⟩ : ∃ s9 : p_S, p_nx s1641 = s9 := ⟨_, rfl⟩
                    rw [e1818] at f1812
                    have : s1817.1 = 0 := by rw [← e1818]; show s1641.1 = 0; omega
                    obtain ⟨v1819, v1820, v1821, v1822, v1823, v1824, v1825, q1826, q1827, q1828, q1829, q1830, q1831, q1832, h1833, h1834, h1835⟩ := f1812
                    replace h1834 := Im.i h1834
                    replace h1835 := Im.i h1835
                    refine mv_aload_n d_Reader_term_115 rfl rfl ?_
                    obtain ⟨_, b1842, -⟩ := I1810.1 _ _ t1813
                    refine mv_callV (kc' := 0) (ks' := 0) (As := []) (st9 := [.ref o0]) d_Reader_term_116 lV_Reader_186 b1842 rfl (tc_Reader_sum_q0_x (d := d) (x9 := x9) (o0 := o0) t1813 (p := p) q1816 (by omega) (by first | omega | decide) (hK I1810) ⟨_, _, _, _, _, _, _, q1826, q1827, q1828, q1829, q1830, q1831, q1832, h1833, Im.o h1834, Im.o h1835⟩ (by omega) I1810.start) rfl (Nat.le_of_ble_eq_true rfl) (Nat.le_of_ble_eq_true rfl) (Nat.le_of_ble_eq_true rfl) (hst := rfl) (fun b1836r M1837 n1838 b1836 => ?_)
                    obtain ⟨T1839, J1840, v1843, rfl, b1844, b1845, o1846, f1847, f1848⟩ := b1836
                    have I1841 := I1810.call J1840 (tm_sub (by decide)) (Or.inl rfl)
                    have t1849 := J1840.up t1813
                    obtain ⟨s1850, e1851⟩ : ∃ s9 : p_S, p_sum pb pn pa (p_op pb pn pa 0) s1817 = s9 := ⟨_, rfl⟩
                    rw [e1851] at f1847 f1848
                    obtain ⟨v1852, v1853, v1854, v1855, v1856, v1857, v1858, q1859, q1860, q1861, q1862, q1863, q1864, q1865, h1866, h1867, h1868⟩ := f1847
                    replace h1867 := Im.i h1867
                    replace h1868 := Im.i h1868
                    have := mz_hi v1843
                    refine mv_if_neZ (tgt := 124) (a := v1843.toInt) d_Reader_term_119 (by decide) rfl (fun b1869 => ?_) (fun b1869 => ?_)
                    · have q1870 := o1846 (by omega)
                      refine mv_aload_n d_Reader_term_124 rfl rfl ?_
                      refine mv_iload_n d_Reader_term_125 rfl rfl ?_
                      refine mv_iconst (v := 0) d_Reader_term_126 (by decide) ?_
                      obtain ⟨_, b1877, -⟩ := I1841.1 _ _ t1849
                      refine mv_callV (kc' := 0) (ks' := 0) (As := [.int 6, .int 0]) (st9 := [.int 0, .int 6, .ref o0]) d_Reader_term_127 lV_Reader_203 b1877 rfl (tc_Reader_emit (d := (d + 4)) (x9 := x9) (o0 := o0) (x1 := 6) (x2 := 0) t1849 I1841.start) rfl (Nat.le_of_ble_eq_true rfl) (Nat.le_of_ble_eq_true rfl) (Nat.le_of_ble_eq_true rfl) (hst := rfl) (fun b1871r M1872 n1873 b1871 => ?_)
                      obtain ⟨T1874, J1875, rfl⟩ := b1871
                      have I1876 := I1841.call J1875 (tm_sub (by decide)) (Or.inl rfl)
                      have t1878 := J1875.up t1849
                      have q1879 := J1875.keep (I1841.up h_o0) (by decide) q1859
                      have q1880 := J1875.keep (I1841.up h_o0) (by decide) q1860
                      have q1881 := J1875.keep (I1841.up h_o0) (by decide) q1861
                      have q1882 := J1875.keep (I1841.up h_o0) (by decide) q1862
                      have q1883 := J1875.keep (I1841.up h_o0) (by decide) q1863
                      have q1884 := J1875.keep (I1841.up h_o0) (by decide) q1864
                      have q1885 := J1875.keep (I1841.up h_o0) (by decide) q1865
                      have q1886 := J1875.keep t1849 (by decide) q1870
                      refine mv_iload_n d_Reader_term_130 rfl rfl ?_
                      have := mz_hi i1_18
                      refine mv_if_eqZ (tgt := 141) (a := i1_18.toInt) d_Reader_term_131 (by decide) rfl (fun b1887 => ?_) (fun b1887 => ?_)
                      · refine mv_iconst (v := 1) d_Reader_term_141 (by decide) ?_
                        exact mv_iret d_Reader_term_142 rfl (by decide) ⟨_, I1876, _, rfl, by decide, by decide, fun _ => q1886, (by have := (Im.o h40) (by omega); have := yC.d s19.2.2; have := yC.kn s19.2.2; have := (Im.o h1659) (by omega); have := yC.d s1641.2.2; have := yC.kn s1641.2.2; have eT : p_ter pb pn pa 0 (p_oc pb pn pa 0) ps = s1850 := (by have hop : p_oc pb pn pa 0 s19 = p_fl pb pn 4 s19 := rfl; have hX := e23.symm.trans (p_lp_stop (show (p_no1 pb pn) s19 = s19 from if_neg (fun h9 => by omega))); unfold p_ter; rw [hX]; unfold p_te1; unfold p_cmp; (try simp only [hop]); (try simp only [e1642, e1818, e1851]); ((repeat' (first | (with_reducible rfl) | split)) <;> (first | ((try simp only [e1642, e1818, e1851]); done) | (exfalso; omega)))); rw [eT]; exact ⟨⟨_, _, _, _, _, _, _, q1879, q1880, q1881, q1882, q1883, q1884, q1885, h1866, Im.o h1867, Im.o h1868⟩, (Or.inl ⟨by first | decide | omega, by omega⟩)⟩)⟩
                      · refine mv_aload_n d_Reader_term_134 rfl rfl ?_
                        refine mv_bipush (v := 8) d_Reader_term_135 (by decide) ?_
                        refine mv_iconst (v := 0) d_Reader_term_137 (by decide) ?_
                        obtain ⟨_, b1894, -⟩ := I1876.1 _ _ t1878
                        refine mv_callV (kc' := 0) (ks' := 0) (As := [.int 8, .int 0]) (st9 := [.int 0, .int 8, .ref o0]) d_Reader_term_138 lV_Reader_203 b1894 rfl (tc_Reader_emit (d := (d + 4)) (x9 := x9) (o0 := o0) (x1 := 8) (x2 := 0) t1878 I1876.start) rfl (Nat.le_of_ble_eq_true rfl) (Nat.le_of_ble_eq_true rfl) (Nat.le_of_ble_eq_true rfl) (hst := rfl) (fun b1888r M1889 n1890 b1888 => ?_)
                        obtain ⟨T1891, J1892, rfl⟩ := b1888
                        have I1893 := I1876.call J1892 (tm_sub (by decide)) (Or.inl rfl)
                        have t1895 := J1892.up t1878
                        have q1896 := J1892.keep t1878 (by decide) q1879
                        have q1897 := J1892.keep t1878 (by decide) q1880
                        have q1898 := J1892.keep t1878 (by decide) q1881
                        have q1899 := J1892.keep t1878 (by decide) q1882
                        have q1900 := J1892.keep t1878 (by decide) q1883
                        have q1901 := J1892.keep t1878 (by decide) q1884
                        have q1902 := J1892.keep t1878 (by decide) q1885
                        have q1903 := J1892.keep t1878 (by decide) q1886
                        refine mv_iconst (v := 1) d_Reader_term_141 (by decide) ?_
                        exact mv_iret d_Reader_term_142 rfl (by decide) ⟨_, I1893, _, rfl, by decide, by decide, fun _ => q1903, (by have := (Im.o h40) (by omega); have := yC.d s19.2.2; have := yC.kn s19.2.2; have := (Im.o h1659) (by omega); have := yC.d s1641.2.2; have := yC.kn s1641.2.2; have eT : p_ter pb pn pa 0 (p_oc pb pn pa 0) ps = s1850 := (by have hop : p_oc pb pn pa 0 s19 = p_fl pb pn 4 s19 := rfl; have hX := e23.symm.trans (p_lp_stop (show (p_no1 pb pn) s19 = s19 from if_neg (fun h9 => by omega))); unfold p_ter; rw [hX]; unfold p_te1; unfold p_cmp; (try simp only [hop]); (try simp only [e1642, e1818, e1851]); ((repeat' (first | (with_reducible rfl) | split)) <;> (first | ((try simp only [e1642, e1818, e1851]); done) | (exfalso; omega)))); rw [eT]; exact ⟨⟨_, _, _, _, _, _, _, q1896, q1897, q1898, q1899, q1900, q1901, q1902, h1866, Im.o h1867, Im.o h1868⟩, (Or.inl ⟨by first | decide | omega, by omega⟩)⟩)⟩
                    · refine mv_iconst (v := 0) d_Reader_term_122 (by decide) ?_
                      exact mv_iret d_Reader_term_123 rfl (by decide) ⟨_, I1841, _, rfl, by decide, by decide, fun h => absurd h (by decide), (by have := (Im.o h40) (by omega); have := yC.d s19.2.2; have := yC.kn s19.2.2; have := (Im.o h1659) (by omega); have := yC.d s1641.2.2; have := yC.kn s1641.2.2; have hb : s1850.1 ≠ 0 := (by omega); have z1 : ∀ c, p_sg pb pn c s1850 = s1850 := (fun c => p_sg_Z s1850 hb); have z2 : ∀ c, p_wd pb pn c s1850 = s1850 := (fun c => p_wd_Z s1850 hb); have z3 : ∀ op, p_sum pb pn pa op s1850 = s1850 := (fun op => p_sum_Z s1850 hb); have z4 : ∀ r oc, p_con pb pn pa r oc s1850 = s1850 := (fun r oc => p_con_Z s1850 hb); have z5 : p_prt pb pn s1850 = s1850 := p_prt_Z s1850 hb; have eT : p_ter pb pn pa 0 (p_oc pb pn pa 0) ps = s1850 := (by have hop : p_oc pb pn pa 0 s19 = p_fl pb pn 4 s19 := rfl; have hX := e23.symm.trans (p_lp_stop (show (p_no1 pb pn) s19 = s19 from if_neg (fun h9 => by omega))); unfold p_ter; rw [hX]; unfold p_te1; unfold p_cmp; (try simp only [hop]); (try simp only [e1642, e1818, e1851, z1, z2, z3, z4, z5]); ((repeat' (first | (with_reducible rfl) | split)) <;> (first | ((try simp only [e1642, e1818, e1851, z1, z2, z3, z4, z5]); done) | (exfalso; omega)))); rw [eT]; exact ⟨⟨_, _, _, _, _, _, _, q1859, q1860, q1861, q1862, q1863, q1864, q1865, h1866, Im.o h1867, Im.o h1868⟩, (Or.inr ⟨by first | decide | omega, by omega⟩)⟩)⟩
                · refine mv_iconst (v := 1) d_Reader_isSign_16 (by decide) ?_
                  refine mv_goto (tgt := 21) d_Reader_isSign_17 (by decide) ?_
                  refine mv_iret d_Reader_isSign_21 rfl (by decide) ?_
                  refine mv_if_eq_f (tgt := 11) d_Reader_comparisonHere_6 (by decide) (by decide) ?_
                  refine mv_iconst (v := 5) d_Reader_comparisonHere_9 (by decide) ?_
                  refine mv_iret d_Reader_comparisonHere_10 rfl (by first | rfl | decide) ?_
                  refine mv_istore_n (lv' := [(2, .int 5), (1, .int i1_18), (0, .ref o0)]) d_Reader_term_99 rfl (by decide) rfl ?_
                  refine mv_iload_n d_Reader_term_100 rfl rfl ?_
                  refine mv_iconst (v := (-1)) d_Reader_term_101 (by decide) ?_
                  refine mv_icmp_ne_t (tgt := 111) d_Reader_term_102 (by decide) (by decide) ?_
                  refine mv_aload_n d_Reader_term_111 rfl rfl ?_
                  obtain ⟨_, b1910, -⟩ := I1632.1 _ _ t1640
                  refine mv_callV (kc' := 0) (ks' := 0) (As := []) (st9 := [.ref o0]) d_Reader_term_112 lV_Reader_82 b1910 rfl (tc_Reader_advance_x (d := (d + 4)) (x9 := x9) (o0 := o0) t1640 (hK I1632) (qS.a (show qS M1628 o0 pb pn s1641 from ⟨_, _, _, _, _, _, _, q1650, q1651, q1652, q1653, q1654, q1655, q1656, h1657, Im.o h1658, Im.o h1659⟩)) (by have := (Im.o h40) (by omega); have := yC.d s19.2.2; have := yC.kn s19.2.2; have := (Im.o h1659) (by omega); have := yC.d s1641.2.2; have := yC.kn s1641.2.2; show s1641.2.2 + 1 ≤ 401; omega) I1632.start) rfl (Nat.le_of_ble_eq_true rfl) (Nat.le_of_ble_eq_true rfl) (Nat.le_of_ble_eq_true rfl) (hst := rfl) (fun b1904r M1905 n1906 b1904 => ?_)
                  obtain ⟨T1907, J1908, rfl, f1911⟩ := b1904
                  have I1909 := I1632.call J1908 (tm_sub (by decide)) (Or.inl rfl)
                  have t1912 := J1908.up t1640
                  have q1913 := J1908.keep (I1632.up h_o0) (by decide) q1650
                  have q1914 := J1908.keep (I1632.up h_o0) (by decide) q1651
                  have q1915 := J1908.keep t1640 (by decide) q1661
                  obtain ⟨s1916, e1917⟩ : ∃ s9 : p_S, p_nx s1641 = s9 := ⟨_, rfl⟩
                  rw [e1917] at f1911
                  have : s1916.1 = 0 := by rw [← e1917]; show s1641.1 = 0; omega
                  obtain ⟨v1918, v1919, v1920, v1921, v1922, v1923, v1924, q1925, q1926, q1927, q1928, q1929, q1930, q1931, h1932, h1933, h1934⟩ := f1911
                  replace h1933 := Im.i h1933
                  replace h1934 := Im.i h1934
                  refine mv_aload_n d_Reader_term_115 rfl rfl ?_
                  obtain ⟨_, b1941, -⟩ := I1909.1 _ _ t1912
                  refine mv_callV (kc' := 0) (ks' := 0) (As := []) (st9 := [.ref o0]) d_Reader_term_116 lV_Reader_186 b1941 rfl (tc_Reader_sum_q0_x (d := d) (x9 := x9) (o0 := o0) t1912 (p := p) q1915 (by omega) (by first | omega | decide) (hK I1909) ⟨_, _, _, _, _, _, _, q1925, q1926, q1927, q1928, q1929, q1930, q1931, h1932, Im.o h1933, Im.o h1934⟩ (by omega) I1909.start) rfl (Nat.le_of_ble_eq_true rfl) (Nat.le_of_ble_eq_true rfl) (Nat.le_of_ble_eq_true rfl) (hst := rfl) (fun b1935r M1936 n1937 b1935 => ?_)
                  obtain ⟨T1938, J1939, v1942, rfl, b1943, b1944, o1945, f1946, f1947⟩ := b1935
                  have I1940 := I1909.call J1939 (tm_sub (by decide)) (Or.inl rfl)
                  have t1948 := J1939.up t1912
                  obtain ⟨s1949, e1950⟩ : ∃ s9 : p_S, p_sum pb pn pa (p_op pb pn pa 0) s1916 = s9 := ⟨_, rfl⟩
                  rw [e1950] at f1946 f1947
                  obtain ⟨v1951, v1952, v1953, v1954, v1955, v1956, v1957, q1958, q1959, q1960, q1961, q1962, q1963, q1964, h1965, h1966, h1967⟩ := f1946
                  replace h1966 := Im.i h1966
                  replace h1967 := Im.i h1967
                  have := mz_hi v1942
                  refine mv_if_neZ (tgt := 124) (a := v1942.toInt) d_Reader_term_119 (by decide) rfl (fun b1968 => ?_) (fun b1968 => ?_)
                  · have q1969 := o1945 (by omega)
                    refine mv_aload_n d_Reader_term_124 rfl rfl ?_
                    refine mv_iload_n d_Reader_term_125 rfl rfl ?_
                    refine mv_iconst (v := 0) d_Reader_term_126 (by decide) ?_
                    obtain ⟨_, b1976, -⟩ := I1940.1 _ _ t1948
                    refine mv_callV (kc' := 0) (ks' := 0) (As := [.int 5, .int 0]) (st9 := [.int 0, .int 5, .ref o0]) d_Reader_term_127 lV_Reader_203 b1976 rfl (tc_Reader_emit (d := (d + 4)) (x9 := x9) (o0 := o0) (x1 := 5) (x2 := 0) t1948 I1940.start) rfl (Nat.le_of_ble_eq_true rfl) (Nat.le_of_ble_eq_true rfl) (Nat.le_of_ble_eq_true rfl) (hst := rfl) (fun b1970r M1971 n1972 b1970 => ?_)
                    obtain ⟨T1973, J1974, rfl⟩ := b1970
                    have I1975 := I1940.call J1974 (tm_sub (by decide)) (Or.inl rfl)
                    have t1977 := J1974.up t1948
                    have q1978 := J1974.keep (I1940.up h_o0) (by decide) q1958
                    have q1979 := J1974.keep (I1940.up h_o0) (by decide) q1959
                    have q1980 := J1974.keep (I1940.up h_o0) (by decide) q1960
                    have q1981 := J1974.keep (I1940.up h_o0) (by decide) q1961
                    have q1982 := J1974.keep (I1940.up h_o0) (by decide) q1962
                    have q1983 := J1974.keep (I1940.up h_o0) (by decide) q1963
                    have q1984 := J1974.keep (I1940.up h_o0) (by decide) q1964
                    have q1985 := J1974.keep t1948 (by decide) q1969
                    refine mv_iload_n d_Reader_term_130 rfl rfl ?_
                    have := mz_hi i1_18
                    refine mv_if_eqZ (tgt := 141) (a := i1_18.toInt) d_Reader_term_131 (by decide) rfl (fun b1986 => ?_) (fun b1986 => ?_)
                    · refine mv_iconst (v := 1) d_Reader_term_141 (by decide) ?_
                      exact mv_iret d_Reader_term_142 rfl (by decide) ⟨_, I1975, _, rfl, by decide, by decide, fun _ => q1985, (by have := (Im.o h40) (by omega); have := yC.d s19.2.2; have := yC.kn s19.2.2; have := (Im.o h1659) (by omega); have := yC.d s1641.2.2; have := yC.kn s1641.2.2; have eT : p_ter pb pn pa 0 (p_oc pb pn pa 0) ps = s1949 := (by have hop : p_oc pb pn pa 0 s19 = p_fl pb pn 4 s19 := rfl; have hX := e23.symm.trans (p_lp_stop (show (p_no1 pb pn) s19 = s19 from if_neg (fun h9 => by omega))); unfold p_ter; rw [hX]; unfold p_te1; unfold p_cmp; (try simp only [hop]); (try simp only [e1642, e1917, e1950]); ((repeat' (first | (with_reducible rfl) | split)) <;> (first | ((try simp only [e1642, e1917, e1950]); done) | (exfalso; omega)))); rw [eT]; exact ⟨⟨_, _, _, _, _, _, _, q1978, q1979, q1980, q1981, q1982, q1983, q1984, h1965, Im.o h1966, Im.o h1967⟩, (Or.inl ⟨by first | decide | omega, by omega⟩)⟩)⟩
                    · refine mv_aload_n d_Reader_term_134 rfl rfl ?_
                      refine mv_bipush (v := 8) d_Reader_term_135 (by decide) ?_
                      refine mv_iconst (v := 0) d_Reader_term_137 (by decide) ?_
                      obtain ⟨_, b1993, -⟩ := I1975.1 _ _ t1977
                      refine mv_callV (kc' := 0) (ks' := 0) (As := [.int 8, .int 0]) (st9 := [.int 0, .int 8, .ref o0]) d_Reader_term_138 lV_Reader_203 b1993 rfl (tc_Reader_emit (d := (d + 4)) (x9 := x9) (o0 := o0) (x1 := 8) (x2 := 0) t1977 I1975.start) rfl (Nat.le_of_ble_eq_true rfl) (Nat.le_of_ble_eq_true rfl) (Nat.le_of_ble_eq_true rfl) (hst := rfl) (fun b1987r M1988 n1989 b1987 => ?_)
                      obtain ⟨T1990, J1991, rfl⟩ := b1987
                      have I1992 := I1975.call J1991 (tm_sub (by decide)) (Or.inl rfl)
                      have t1994 := J1991.up t1977
                      have q1995 := J1991.keep t1977 (by decide) q1978
                      have q1996 := J1991.keep t1977 (by decide) q1979
                      have q1997 := J1991.keep t1977 (by decide) q1980
                      have q1998 := J1991.keep t1977 (by decide) q1981
                      have q1999 := J1991.keep t1977 (by decide) q1982
                      have q2000 := J1991.keep t1977 (by decide) q1983
                      have q2001 := J1991.keep t1977 (by decide) q1984
                      have q2002 := J1991.keep t1977 (by decide) q1985
                      refine mv_iconst (v := 1) d_Reader_term_141 (by decide) ?_
                      exact mv_iret d_Reader_term_142 rfl (by decide) ⟨_, I1992, _, rfl, by decide, by decide, fun _ => q2002, (by have := (Im.o h40) (by omega); have := yC.d s19.2.2; have := yC.kn s19.2.2; have := (Im.o h1659) (by omega); have := yC.d s1641.2.2; have := yC.kn s1641.2.2; have eT : p_ter pb pn pa 0 (p_oc pb pn pa 0) ps = s1949 := (by have hop : p_oc pb pn pa 0 s19 = p_fl pb pn 4 s19 := rfl; have hX := e23.symm.trans (p_lp_stop (show (p_no1 pb pn) s19 = s19 from if_neg (fun h9 => by omega))); unfold p_ter; rw [hX]; unfold p_te1; unfold p_cmp; (try simp only [hop]); (try simp only [e1642, e1917, e1950]); ((repeat' (first | (with_reducible rfl) | split)) <;> (first | ((try simp only [e1642, e1917, e1950]); done) | (exfalso; omega)))); rw [eT]; exact ⟨⟨_, _, _, _, _, _, _, q1995, q1996, q1997, q1998, q1999, q2000, q2001, h1965, Im.o h1966, Im.o h1967⟩, (Or.inl ⟨by first | decide | omega, by omega⟩)⟩)⟩
                  · refine mv_iconst (v := 0) d_Reader_term_122 (by decide) ?_
                    exact mv_iret d_Reader_term_123 rfl (by decide) ⟨_, I1940, _, rfl, by decide, by decide, fun h => absurd h (by decide), (by have := (Im.o h40) (by omega); have := yC.d s19.2.2; have := yC.kn s19.2.2; have := (Im.o h1659) (by omega); have := yC.d s1641.2.2; have := yC.kn s1641.2.2; have hb : s1949.1 ≠ 0 := (by omega); have z1 : ∀ c, p_sg pb pn c s1949 = s1949 := (fun c => p_sg_Z s1949 hb); have z2 : ∀ c, p_wd pb pn c s1949 = s1949 := (fun c => p_wd_Z s1949 hb); have z3 : ∀ op, p_sum pb pn pa op s1949 = s1949 := (fun op => p_sum_Z s1949 hb); have z4 : ∀ r oc, p_con pb pn pa r oc s1949 = s1949 := (fun r oc => p_con_Z s1949 hb); have z5 : p_prt pb pn s1949 = s1949 := p_prt_Z s1949 hb; have eT : p_ter pb pn pa 0 (p_oc pb pn pa 0) ps = s1949 := (by have hop : p_oc pb pn pa 0 s19 = p_fl pb pn 4 s19 := rfl; have hX := e23.symm.trans (p_lp_stop (show (p_no1 pb pn) s19 = s19 from if_neg (fun h9 => by omega))); unfold p_ter; rw [hX]; unfold p_te1; unfold p_cmp; (try simp only [hop]); (try simp only [e1642, e1917, e1950, z1, z2, z3, z4, z5]); ((repeat' (first | (with_reducible rfl) | split)) <;> (first | ((try simp only [e1642, e1917, e1950, z1, z2, z3, z4, z5]); done) | (exfalso; omega)))); rw [eT]; exact ⟨⟨_, _, _, _, _, _, _, q1958, q1959, q1960, q1961, q1962, q1963, q1964, h1965, Im.o h1966, Im.o h1967⟩, (Or.inr ⟨by first | decide | omega, by omega⟩)⟩)⟩
            · refine mv_iconst (v := 0) d_Reader_term_93 (by decide) ?_
              exact mv_iret d_Reader_term_94 rfl (by decide) ⟨_, I1632, _, rfl, by decide, by decide, fun h => absurd h (by decide), (by have := (Im.o h40) (by omega); have := yC.d s19.2.2; have := yC.kn s19.2.2; have hb : s1641.1 ≠ 0 := (by omega); have z1 : ∀ c, p_sg pb pn c s1641 = s1641 := (fun c => p_sg_Z s1641 hb); have z2 : ∀ c, p_wd pb pn c s1641 = s1641 := (fun c => p_wd_Z s1641 hb); have z3 : ∀ op, p_sum pb pn pa op s1641 = s1641 := (fun op => p_sum_Z s1641 hb); have z4 : ∀ r oc, p_con pb pn pa r oc s1641 = s1641 := (fun r oc => p_con_Z s1641 hb); have z5 : p_prt pb pn s1641 = s1641 := p_prt_Z s1641 hb; have eT : p_ter pb pn pa 0 (p_oc pb pn pa 0) ps = s1641 := (by have hop : p_oc pb pn pa 0 s19 = p_fl pb pn 4 s19 := rfl; have hX := e23.symm.trans (p_lp_stop (show (p_no1 pb pn) s19 = s19 from if_neg (fun h9 => by omega))); unfold p_ter; rw [hX]; unfold p_te1; unfold p_cmp; (try simp only [hop]); (try simp only [e1642, z1, z2, z3, z4, z5]); ((repeat' (first | (with_reducible rfl) | split)) <;> (first | ((try simp only [e1642, z1, z2, z3, z4, z5]); done) | (exfalso; omega)))); rw [eT]; exact ⟨⟨_, _, _, _, _, _, _, q1650, q1651, q1652, q1653, q1654, q1655, q1656, h1657, Im.o h1658, Im.o h1659⟩, (Or.inr ⟨by first | decide | omega, by omega⟩)⟩)⟩
          · refine mv_iconst (v := 1) d_Reader_isWord_16 (by decide) ?_
            refine mv_goto (tgt := 21) d_Reader_isWord_17 (by decide) ?_
            refine mv_iret d_Reader_isWord_21 rfl (by decide) ?_
            refine mv_if_eq_f (tgt := 40) d_Reader_term_17 (by decide) (by decide) ?_
            refine mv_aload_n d_Reader_term_20 rfl rfl ?_
            obtain ⟨_, b2009, -⟩ := I_18.1 _ _ h_q0_18
            refine mv_callV (kc' := 0) (ks' := 0) (As := []) (st9 := [.ref o0]) d_Reader_term_21 lV_Reader_82 b2009 rfl (tc_Reader_advance_x (d := (d + 4)) (x9 := x9) (o0 := o0) h_q0_18 (hK I_18) (qS.a (show qS M_18 o0 pb pn s19 from ⟨_, _, _, _, _, _, _, q31, q32, q33, q34, q35, q36, q37, h38, Im.o h39, Im.o h40⟩)) (by have := (Im.o h40) (by omega); have := yC.d s19.2.2; have := yC.kn s19.2.2; show s19.2.2 + 1 ≤ 401; omega) I_18.start) rfl (Nat.le_of_ble_eq_true rfl) (Nat.le_of_ble_eq_true rfl) (Nat.le_of_ble_eq_true rfl) (hst := rfl) (fun b2003r M2004 n2005 b2003 => ?_)
            obtain ⟨T2006, J2007, rfl, f2010⟩ := b2003
            have I2008 := I_18.call J2007 (tm_sub (by decide)) (Or.inl rfl)
            have t2011 := J2007.up h_q0_18
            have q2012 := J2007.keep h_q0_18 (by decide) kp0_18
            have q2013 := J2007.keep h_q0_18 (by decide) q31
            have q2014 := J2007.keep h_q0_18 (by decide) q32
            obtain ⟨s2015, e2016⟩ : ∃ s9 : p_S, p_nx s19 = s9 := ⟨_, rfl⟩
            rw [e2016] at f2010
            have : s2015.1 = 0 := by rw [← e2016]; show s19.1 = 0; omega
            obtain ⟨v2017, v2018, v2019, v2020, v2021, v2022, v2023, q2024, q2025, q2026, q2027, q2028, q2029, q2030, h2031, h2032, h2033⟩ := f2010
            replace h2032 := Im.i h2032
            replace h2033 := Im.i h2033
            refine mv_iload_n d_Reader_term_24 rfl rfl ?_
            have := mz_hi i1_18
            refine mv_if_neZ (tgt := 32) (a := i1_18.toInt) d_Reader_term_25 (by decide) rfl (fun b2034 => ?_) (fun b2034 => ?_)
            · refine mv_iconst (v := 0) d_Reader_term_32 (by decide) ?_
              refine mv_istore_n (lv' := [(1, .int 0), (2, .int i2_18), (0, .ref o0)]) d_Reader_term_33 rfl (by decide) rfl ?_
              refine mv_iinc (v := (i2_18 + 1)) (lv' := [(2, .int (i2_18 + 1)), (1, .int 0), (0, .ref o0)]) d_Reader_term_34 rfl rfl (by decide) rfl ?_
              refine mv_goto (tgt := 4) d_Reader_term_37 (by decide) ?_
              have : (i2_18 + 1 : Int32).toInt = i2_18.toInt + 1 := mz_addn 1 1 (by decide) (by omega) (by omega)
              have T2035 : ∃ s1 : p_S, qS M2004 o0 pb pn s1 ∧ s1.1 = 0 ∧ (i2_18 + 1).toInt ≤ (s1.2.2 : Int) ∧ p_lp pn (p_no1 pb pn) s1 = p_lp pn (p_no1 pb pn) ps := ⟨s2015, ⟨_, _, _, _, _, _, _, q2024, q2025, q2026, q2027, q2028, q2029, q2030, h2031, Im.o h2032, Im.o h2033⟩, by omega, (by have h9 : s19.2.2 + 1 ≤ s2015.2.2 := (by rw [← e2016]; exact Nat.le_refl _); omega), (by have := (Im.o h40) (by omega); have := yC.d s19.2.2; have := yC.kn s19.2.2; have st : (p_no1 pb pn) s19 = s2015 := (by rw [show (p_no1 pb pn) s19 = p_nx s19 from if_pos ⟨by omega, by omega⟩]; simp only [e2016]); rw [← st, p_P.go p_no1_P s19]; exact e23)⟩
              have b2036 : (i2_18 + 1).toInt = i2_18.toInt + 1 := mz_addn 1 1 (by decide) (by have := mz_lo i2_18; omega) (by have := mz_hi i2_18; omega)
              exact (ih18 (i2_18 + 1) 0 T2006 M2004 n2005 I2008 t2011 (by first | omega | decide) q2012 T2035 (by omega))
            · refine mv_iconst (v := 1) d_Reader_term_28 (by decide) ?_
              refine mv_goto (tgt := 33) d_Reader_term_29 (by decide) ?_
              refine mv_istore_n (lv' := [(1, .int 1), (2, .int i2_18), (0, .ref o0)]) d_Reader_term_33 rfl (by decide) rfl ?_
              refine mv_iinc (v := (i2_18 + 1)) (lv' := [(2, .int (i2_18 + 1)), (1, .int 1), (0, .ref o0)]) d_Reader_term_34 rfl rfl (by decide) rfl ?_
              refine mv_goto (tgt := 4) d_Reader_term_37 (by decide) ?_
              have : (i2_18 + 1 : Int32).toInt = i2_18.toInt + 1 := mz_addn 1 1 (by decide) (by omega) (by omega)
              have T2037 : ∃ s1 : p_S, qS M2004 o0 pb pn s1 ∧ s1.1 = 0 ∧ (i2_18 + 1).toInt ≤ (s1.2.2 : Int) ∧ p_lp pn (p_no1 pb pn) s1 = p_lp pn (p_no1 pb pn) ps := ⟨s2015, ⟨_, _, _, _, _, _, _, q2024, q2025, q2026, q2027, q2028, q2029, q2030, h2031, Im.o h2032, Im.o h2033⟩, by omega, (by have h9 : s19.2.2 + 1 ≤ s2015.2.2 := (by rw [← e2016]; exact Nat.le_refl _); omega), (by have := (Im.o h40) (by omega); have := yC.d s19.2.2; have := yC.kn s19.2.2; have st : (p_no1 pb pn) s19 = s2015 := (by rw [show (p_no1 pb pn) s19 = p_nx s19 from if_pos ⟨by omega, by omega⟩]; simp only [e2016]); rw [← st, p_P.go p_no1_P s19]; exact e23)⟩
              have b2038 : (i2_18 + 1).toInt = i2_18.toInt + 1 := mz_addn 1 1 (by decide) (by have := mz_lo i2_18; omega) (by have := mz_hi i2_18; omega)
              exact (ih18 (i2_18 + 1) 1 T2006 M2004 n2005 I2008 t2011 (by first | omega | decide) q2012 T2037 (by omega))
  have T2039 : ∃ s1 : p_S, qS M0 o0 pb pn s1 ∧ s1.1 = 0 ∧ 0 ≤ (s1.2.2 : Int) ∧ p_lp pn (p_no1 pb pn) s1 = p_lp pn (p_no1 pb pn) ps := ⟨ps, ⟨_, _, _, _, _, _, _, q8, q9, q10, q11, q12, q13, q14, h15, Im.o h16, Im.o h17⟩, by omega, (by show (0 : Int) ≤ _; omega), rfl⟩
  exact mv_less (Nat.zero_le _) (Nat.zero_le _) (L4_18 4294967296 0 0 T0 M0 n0 I0 h_o0 (by first | omega | decide) hO T2039 (by show (2147483647 - (0 : Int) : Int) < _; decide))
def w_Reader_both_q0_x : List Nat := [901, 902, 909, 910, 911, 912, 913, 914, 916, 918, 967]
set_option maxHeartbeats 100000000 in theorem tc_Reader_both_q0_x {g : mj_G} {l : Launch} {d : Nat} {T0 : tm_H} {M0 : mj_M} {n0 x9 : Nat} {o0 : Nat} (h_o0 : T0 o0 = some (0, 9, 0)) {p : Int32} (hO : tm_at M0 o0 9 16 (.int p)) (hp : 4 ≤ p.toInt)  (hp2 : p.toInt ≤ 4) {pb : Nat → Int} {pn : Nat} {pa : Int} {ps : p_S} (yC : qC M0 o0 pb pn pa) (yD : qS M0 o0 pb pn ps) (yw : ps.1 = 0) (I0 : tm_I tm_FT (tm_in w_Reader_both_q0_x) x9 T0 M0 n0 T0 M0 n0) : mj_Met g l kY_Reader_both (d + 6) [.ref o0] M0 n0 0 0 (tm_Q tm_FT (tm_in w_Reader_both_q0_x) x9 T0 M0 n0 (fun r _ M => ∃ v : Int32, r = some (.int v) ∧ 0 ≤ v.toInt ∧ v.toInt ≤ 1 ∧ (v.toInt = 1 → tm_at M o0 9 16 (.int p)) ∧ (qS M o0 pb pn (p_bot pb pn pa 0 (p_oc pb pn pa 0) ps)) ∧ (v.toInt = 1 ∧ (p_bot pb pn pa 0 (p_oc pb pn pa 0) ps).1 = 0 ∨ v.toInt = 0 ∧ (p_bot pb pn pa 0 (p_oc pb pn pa 0) ps).1 ≠ 0))) := by
  refine mj_enter (by decide) (Nat.le_of_ble_eq_true rfl) ?_
  have hK : ∀ {T : tm_H} {M : mj_M} {n : Nat}, tm_I tm_FT (tm_in w_Reader_both_q0_x) x9 T0 M0 n0 T M n → qC M o0 pb pn pa := fun I => yC.keep I0.1 I h_o0 (qW_of (by decide +kernel))
  obtain ⟨v1, v2, v3, v4, v5, v6, v7, q8, q9, q10, q11, q12, q13, q14, h15, h16, h17⟩ := yD
  replace h16 := Im.i h16
  replace h17 := Im.i h17
  refine mv_aload_n d_Reader_both_0 rfl rfl ?_
  obtain ⟨_, b24, -⟩ := I0.1 _ _ h_o0
  refine mv_callV (kc' := 0) (ks' := 0) (As := []) (st9 := [.ref o0]) d_Reader_both_1 lV_Reader_206 b24 rfl (tc_Reader_term_q0_x (d := d) (x9 := x9) (o0 := o0) h_o0 (p := p) hO (by omega) (by first | omega | decide) (hK I0) ⟨_, _, _, _, _, _, _, q8, q9, q10, q11, q12, q13, q14, h15, Im.o h16, Im.o h17⟩ (by omega) I0.start) rfl (Nat.le_of_ble_eq_true rfl) (Nat.le_of_ble_eq_true rfl) (Nat.le_of_ble_eq_true rfl) (hst := rfl) (fun b18r M19 n20 b18 => ?_)
  obtain ⟨T21, J22, v25, rfl, b26, b27, o28, f29, f30⟩ := b18
  have I23 := I0.call J22 (tm_sub (by decide)) (Or.inl rfl)
  have t31 := J22.up h_o0
  obtain ⟨s32, e33⟩ : ∃ s9 : p_S, p_ter pb pn pa 0 (p_oc pb pn pa 0) ps = s9 := ⟨_, rfl⟩
  rw [e33] at f29 f30
  obtain ⟨v34, v35, v36, v37, v38, v39, v40, q41, q42, q43, q44, q45, q46, q47, h48, h49, h50⟩ := f29
  replace h49 := Im.i h49
  replace h50 := Im.i h50
  have := mz_hi v25
  refine mv_if_neZ (tgt := 9) (a := v25.toInt) d_Reader_both_4 (by decide) rfl (fun b51 => ?_) (fun b51 => ?_)
  · have q52 := o28 (by omega)
    refine mv_iconst (v := 0) d_Reader_both_9 (by decide) ?_
    refine mv_istore_n (lv' := [(1, .int 0), (0, .ref o0)]) d_Reader_both_10 rfl (by decide) rfl ?_
    have L11_53 : ∀ (k : Nat) (i1_53 : Int32) (T_53 : tm_H) (M_53 : mj_M) (n_53 : Nat), tm_I tm_FT (tm_in w_Reader_both_q0_x) x9 T0 M0 n0 T_53 M_53 n_53 → T_53 o0 = some (0, 9, 0) → 0 ≤ i1_53.toInt → tm_at M_53 o0 9 16 (.int p) → (∃ s1 : p_S, qS M_53 o0 pb pn s1 ∧ s1.1 = 0 ∧ i1_53.toInt ≤ (s1.2.2 : Int) ∧ p_lp pn (p_bo1 pb pn pa 0 (p_oc pb pn pa 0)) s1 = p_bot pb pn pa 0 (p_oc pb pn pa 0) ps) → 2147483647 - i1_53.toInt < (k : Int) → mj_V g l kY_Reader_both (d + 6) 11 [(1, .int i1_53), (0, .ref o0)] [] M_53 n_53 0 0 (tm_Q tm_FT (tm_in w_Reader_both_q0_x) x9 T0 M0 n0 (fun r _ M => ∃ v : Int32, r = some (.int v) ∧ 0 ≤ v.toInt ∧ v.toInt ≤ 1 ∧ (v.toInt = 1 → tm_at M o0 9 16 (.int p)) ∧ (qS M o0 pb pn (p_bot pb pn pa 0 (p_oc pb pn pa 0) ps)) ∧ (v.toInt = 1 ∧ (p_bot pb pn pa 0 (p_oc pb pn pa 0) ps).1 = 0 ∨ v.toInt = 0 ∧ (p_bot pb pn pa 0 (p_oc pb pn pa 0) ps).1 ≠ 0))) := by
      intro k53
      induction k53 with
      | zero =>
        intro i1_53 T_53 M_53 n_53 I_53 h_q0_53 iv0_53 kp0_53 kKT9_53 hk53
        have := mz_hi i1_53
        omega
      | succ k53 ih53 =>
        intro i1_53 T_53 M_53 n_53 I_53 h_q0_53 iv0_53 kp0_53 kKT9_53 hk53
        obtain ⟨s54, f55, h56, h57, e58⟩ := kKT9_53
        obtain ⟨v59, v60, v61, v62, v63, v64, v65, q66, q67, q68, q69, q70, q71, q72, h73, h74, h75⟩ := f55
        replace h74 := Im.i h74
        replace h75 := Im.i h75
        refine mv_iload_n d_Reader_both_11 rfl rfl ?_
        refine mv_sipush (v := 400) d_Reader_both_12 (by decide) ?_
        have := mz_hi i1_53
        refine mv_icmp_geZ (tgt := 53) (a := i1_53.toInt) (b := 400) d_Reader_both_15 (by decide) rfl (by decide) (fun b76 => ?_) (fun b76 => ?_)
        · refine mv_iconst (v := 1) d_Reader_both_53 (by decide) ?_
          exact mv_iret d_Reader_both_54 rfl (by decide) ⟨_, I_53, _, rfl, by decide, by decide, fun _ => kp0_53, (by have := (Im.o h75) (by omega); have := yC.d s54.2.2; have := yC.kn s54.2.2; have hX := e58.symm.trans (p_lp_stop (show (p_bo1 pb pn pa 0 (p_oc pb pn pa 0)) s54 = s54 from if_neg (fun h9 => by omega))); have eT : p_bot pb pn pa 0 (p_oc pb pn pa 0) ps = s54 := (by exact hX); rw [eT]; exact ⟨⟨_, _, _, _, _, _, _, q66, q67, q68, q69, q70, q71, q72, h73, Im.o h74, Im.o h75⟩, (Or.inl ⟨by first | decide | omega, by omega⟩)⟩)⟩
        · refine mv_aload_n d_Reader_both_18 rfl rfl ?_
          refine mv_bipush (v := 31) d_Reader_both_19 (by decide) ?_
          obtain ⟨_, b77, -⟩ := I_53.1 _ _ h_q0_53
          refine mv_callV (kc1 := 0) (ks1 := 0) (kc' := 0) (ks' := 0) (As := [.int 31]) (st9 := [.int 31, .ref o0]) d_Reader_both_21 lV_Reader_52 b77 rfl (mj_enter (by decide) (Nat.le_of_ble_eq_true rfl) ?_) rfl (Nat.le_of_ble_eq_true rfl) (Nat.le_of_ble_eq_true rfl) (Nat.le_of_ble_eq_true rfl) (hst := rfl) (fun _ _ _ h => h)
          refine mv_aload_n d_Reader_isWord_0 rfl rfl ?_
          refine tr_getK (k := 10) q69 d_Reader_isWord_1 f_Reader_41_9 ?_
          refine mv_iconst (v := 1) d_Reader_isWord_4 (by decide) ?_
          have := mz_hi v62
          refine mv_icmp_neZ (tgt := 20) (a := v62.toInt) (b := 1) d_Reader_isWord_5 (by decide) rfl (by decide) (fun b78 => ?_) (fun b78 => ?_)
          · refine mv_iconst (v := 0) d_Reader_isWord_20 (by decide) ?_
            refine mv_iret d_Reader_isWord_21 rfl (by decide) ?_
            refine mv_if_eq_t (tgt := 53) d_Reader_both_24 (by decide) (by decide) ?_
            refine mv_iconst (v := 1) d_Reader_both_53 (by decide) ?_
            exact mv_iret d_Reader_both_54 rfl (by decide) ⟨_, I_53, _, rfl, by decide, by decide, fun _ => kp0_53, (by have := (Im.o h75) (by omega); have := yC.d s54.2.2; have := yC.kn s54.2.2; have hX := e58.symm.trans (p_lp_stop (show (p_bo1 pb pn pa 0 (p_oc pb pn pa 0)) s54 = s54 from if_neg (fun h9 => by omega))); have eT : p_bot pb pn pa 0 (p_oc pb pn pa 0) ps = s54 := (by exact hX); rw [eT]; exact ⟨⟨_, _, _, _, _, _, _, q66, q67, q68, q69, q70, q71, q72, h73, Im.o h74, Im.o h75⟩, (Or.inl ⟨by first | decide | omega, by omega⟩)⟩)⟩
          · refine mv_aload_n d_Reader_isWord_8 rfl rfl ?_
            refine tr_getK (k := 13) q72 d_Reader_isWord_9 f_Reader_241_9 ?_
            refine mv_iload_n d_Reader_isWord_12 rfl rfl ?_
            have := mz_hi v65
            refine mv_icmp_neZ (tgt := 20) (a := v65.toInt) (b := 31) d_Reader_isWord_13 (by decide) rfl (by decide) (fun b79 => ?_) (fun b79 => ?_)
            · refine mv_iconst (v := 0) d_Reader_isWord_20 (by decide) ?_
              refine mv_iret d_Reader_isWord_21 rfl (by decide) ?_
              refine mv_if_eq_t (tgt := 53) d_Reader_both_24 (by decide) (by decide) ?_
              refine mv_iconst (v := 1) d_Reader_both_53 (by decide) ?_
              exact mv_iret d_Reader_both_54 rfl (by decide) ⟨_, I_53, _, rfl, by decide, by decide, fun _ => kp0_53, (by have := (Im.o h75) (by omega); have := yC.d s54.2.2; have := yC.kn s54.2.2; have hX := e58.symm.trans (p_lp_stop (show (p_bo1 pb pn pa 0 (p_oc pb pn pa 0)) s54 = s54 from if_neg (fun h9 => by omega))); have eT : p_bot pb pn pa 0 (p_oc pb pn pa 0) ps = s54 := (by exact hX); rw [eT]; exact ⟨⟨_, _, _, _, _, _, _, q66, q67, q68, q69, q70, q71, q72, h73, Im.o h74, Im.o h75⟩, (Or.inl ⟨by first | decide | omega, by omega⟩)⟩)⟩
            · refine mv_iconst (v := 1) d_Reader_isWord_16 (by decide) ?_
              refine mv_goto (tgt := 21) d_Reader_isWord_17 (by decide) ?_
              refine mv_iret d_Reader_isWord_21 rfl (by decide) ?_
              refine mv_if_eq_f (tgt := 53) d_Reader_both_24 (by decide) (by decide) ?_
              refine mv_aload_n d_Reader_both_27 rfl rfl ?_
              obtain ⟨_, b86, -⟩ := I_53.1 _ _ h_q0_53
              refine mv_callV (kc' := 0) (ks' := 0) (As := []) (st9 := [.ref o0]) d_Reader_both_28 lV_Reader_82 b86 rfl (tc_Reader_advance_x (d := (d + 5)) (x9 := x9) (o0 := o0) h_q0_53 (hK I_53) (qS.a (show qS M_53 o0 pb pn s54 from ⟨_, _, _, _, _, _, _, q66, q67, q68, q69, q70, q71, q72, h73, Im.o h74, Im.o h75⟩)) (by have := (Im.o h75) (by omega); have := yC.d s54.2.2; have := yC.kn s54.2.2; show s54.2.2 + 1 ≤ 401; omega) I_53.start) rfl (Nat.le_of_ble_eq_true rfl) (Nat.le_of_ble_eq_true rfl) (Nat.le_of_ble_eq_true rfl) (hst := rfl) (fun b80r M81 n82 b80 => ?_)
              obtain ⟨T83, J84, rfl, f87⟩ := b80
              have I85 := I_53.call J84 (tm_sub (by decide)) (Or.inl rfl)
              have t88 := J84.up h_q0_53
              have q89 := J84.keep h_q0_53 (by decide) kp0_53
              have q90 := J84.keep h_q0_53 (by decide) q66
              have q91 := J84.keep h_q0_53 (by decide) q67
              obtain ⟨s92, e93⟩ : ∃ s9 : p_S, p_nx s54 = s9 := ⟨_, rfl⟩
              rw [e93] at f87
              have : s92.1 = 0 := by rw [← e93]; show s54.1 = 0; omega
              obtain ⟨v94, v95, v96, v97, v98, v99, v100, q101, q102, q103, q104, q105, q106, q107, h108, h109, h110⟩ := f87
              replace h109 := Im.i h109
              replace h110 := Im.i h110
              refine mv_aload_n d_Reader_both_31 rfl rfl ?_
              obtain ⟨_, b117, -⟩ := I85.1 _ _ t88
              refine mv_callV (kc' := 0) (ks' := 0) (As := []) (st9 := [.ref o0]) d_Reader_both_32 lV_Reader_206 b117 rfl (tc_Reader_term_q0_x (d := d) (x9 := x9) (o0 := o0) t88 (p := p) q89 (by omega) (by first | omega | decide) (hK I85) ⟨_, _, _, _, _, _, _, q101, q102, q103, q104, q105, q106, q107, h108, Im.o h109, Im.o h110⟩ (by omega) I85.start) rfl (Nat.le_of_ble_eq_true rfl) (Nat.le_of_ble_eq_true rfl) (Nat.le_of_ble_eq_true rfl) (hst := rfl) (fun b111r M112 n113 b111 => ?_)
              obtain ⟨T114, J115, v118, rfl, b119, b120, o121, f122, f123⟩ := b111
              have I116 := I85.call J115 (tm_sub (by decide)) (Or.inl rfl)
              have t124 := J115.up t88
              obtain ⟨s125, e126⟩ : ∃ s9 : p_S, p_ter pb pn pa 0 (p_oc pb pn pa 0) s92 = s9 := ⟨_, rfl⟩
              rw [e126] at f122 f123
              obtain ⟨v127, v128, v129, v130, v131, v132, v133, q134, q135, q136, q137, q138, q139, q140, h141, h142, h143⟩ := f122
              replace h142 := Im.i h142
              replace h143 := Im.i h143
              have := mz_hi v118
              refine mv_if_neZ (tgt := 40) (a := v118.toInt) d_Reader_both_35 (by decide) rfl (fun b144 => ?_) (fun b144 => ?_)
              · have q145 := o121 (by omega)
                refine mv_aload_n d_Reader_both_40 rfl rfl ?_
                refine mv_bipush (v := 9) d_Reader_both_41 (by decide) ?_
                refine mv_iconst (v := 0) d_Reader_both_43 (by decide) ?_
                obtain ⟨_, b152, -⟩ := I116.1 _ _ t124
                refine mv_callV (kc' := 0) (ks' := 0) (As := [.int 9, .int 0]) (st9 := [.int 0, .int 9, .ref o0]) d_Reader_both_44 lV_Reader_203 b152 rfl (tc_Reader_emit (d := (d + 5)) (x9 := x9) (o0 := o0) (x1 := 9) (x2 := 0) t124 I116.start) rfl (Nat.le_of_ble_eq_true rfl) (Nat.le_of_ble_eq_true rfl) (Nat.le_of_ble_eq_true rfl) (hst := rfl) (fun b146r M147 n148 b146 => ?_)
                obtain ⟨T149, J150, rfl⟩ := b146
                have I151 := I116.call J150 (tm_sub (by decide)) (Or.inl rfl)
                have t153 := J150.up t124
                have q154 := J150.keep (I116.up h_o0) (by decide) q134
                have q155 := J150.keep (I116.up h_o0) (by decide) q135
                have q156 := J150.keep (I116.up h_o0) (by decide) q136
                have q157 := J150.keep (I116.up h_o0) (by decide) q137
                have q158 := J150.keep (I116.up h_o0) (by decide) q138
                have q159 := J150.keep (I116.up h_o0) (by decide) q139
                have q160 := J150.keep (I116.up h_o0) (by decide) q140
                have q161 := J150.keep t124 (by decide) q145
                refine mv_iinc (v := (i1_53 + 1)) (lv' := [(1, .int (i1_53 + 1)), (0, .ref o0)]) d_Reader_both_47 rfl rfl (by decide) rfl ?_
                refine mv_goto (tgt := 11) d_Reader_both_50 (by decide) ?_
                have : (i1_53 + 1 : Int32).toInt = i1_53.toInt + 1 := mz_addn 1 1 (by decide) (by omega) (by omega)
                have T162 : ∃ s1 : p_S, qS M147 o0 pb pn s1 ∧ s1.1 = 0 ∧ (i1_53 + 1).toInt ≤ (s1.2.2 : Int) ∧ p_lp pn (p_bo1 pb pn pa 0 (p_oc pb pn pa 0)) s1 = p_bot pb pn pa 0 (p_oc pb pn pa 0) ps := ⟨s125, ⟨_, _, _, _, _, _, _, q154, q155, q156, q157, q158, q159, q160, h141, Im.o h142, Im.o h143⟩, by omega, (by have h9 : s54.2.2 + 1 ≤ s125.2.2 := (by rw [← e126, ← e93]; exact p_ter_M (p_oc_M _) (p_nx s54)); omega), (by have := (Im.o h75) (by omega); have := yC.d s54.2.2; have := yC.kn s54.2.2; have st : (p_bo1 pb pn pa 0 (p_oc pb pn pa 0)) s54 = s125 := (by rw [show (p_bo1 pb pn pa 0 (p_oc pb pn pa 0)) s54 = p_ter pb pn pa 0 (p_oc pb pn pa 0) (p_nx s54) from if_pos ⟨by omega, by omega⟩]; simp only [e93, e126]); rw [← st, p_P.go (p_bo1_P (p_oc_M _)) s54]; exact e58)⟩
                have b163 : (i1_53 + 1).toInt = i1_53.toInt + 1 := mz_addn 1 1 (by decide) (by have := mz_lo i1_53; omega) (by have := mz_hi i1_53; omega)
                exact (ih53 (i1_53 + 1) T149 M147 n148 I151 t153 (by first | omega | decide) q161 T162 (by omega))
              · refine mv_iconst (v := 0) d_Reader_both_38 (by decide) ?_
                exact mv_iret d_Reader_both_39 rfl (by decide) ⟨_, I116, _, rfl, by decide, by decide, fun h => absurd h (by decide), (by have := (Im.o h75) (by omega); have := yC.d s54.2.2; have := yC.kn s54.2.2; have hb : s125.1 ≠ 0 := (by omega); have z1 : ∀ c, p_sg pb pn c s125 = s125 := (fun c => p_sg_Z s125 hb); have z2 : ∀ c, p_wd pb pn c s125 = s125 := (fun c => p_wd_Z s125 hb); have z3 : ∀ op, p_sum pb pn pa op s125 = s125 := (fun op => p_sum_Z s125 hb); have z4 : ∀ r oc, p_con pb pn pa r oc s125 = s125 := (fun r oc => p_con_Z s125 hb); have z5 : p_prt pb pn s125 = s125 := p_prt_Z s125 hb; have st : (p_bo1 pb pn pa 0 (p_oc pb pn pa 0)) s54 = s125 := (by rw [show (p_bo1 pb pn pa 0 (p_oc pb pn pa 0)) s54 = p_ter pb pn pa 0 (p_oc pb pn pa 0) (p_nx s54) from if_pos ⟨by omega, by omega⟩]; simp only [e93, e126]); have eT : p_bot pb pn pa 0 (p_oc pb pn pa 0) ps = s125 := (by rw [← e58, ← p_P.go (p_bo1_P (p_oc_M _)) s54, st]; exact p_lp_stop (p_bo1_Z s125 hb)); rw [eT]; exact ⟨⟨_, _, _, _, _, _, _, q134, q135, q136, q137, q138, q139, q140, h141, Im.o h142, Im.o h143⟩, (Or.inr ⟨by first | decide | omega, by omega⟩)⟩)⟩
    have T164 : ∃ s1 : p_S, qS M19 o0 pb pn s1 ∧ s1.1 = 0 ∧ 0 ≤ (s1.2.2 : Int) ∧ p_lp pn (p_bo1 pb pn pa 0 (p_oc pb pn pa 0)) s1 = p_bot pb pn pa 0 (p_oc pb pn pa 0) ps := ⟨s32, ⟨_, _, _, _, _, _, _, q41, q42, q43, q44, q45, q46, q47, h48, Im.o h49, Im.o h50⟩, by omega, (by show (0 : Int) ≤ _; omega), (by rw [← e33]; rfl)⟩
    exact mv_less (Nat.zero_le _) (Nat.zero_le _) (L11_53 4294967296 0 T21 M19 n20 I23 t31 (by first | omega | decide) q52 T164 (by show (2147483647 - (0 : Int) : Int) < _; decide))
  · refine mv_iconst (v := 0) d_Reader_both_7 (by decide) ?_
    exact mv_iret d_Reader_both_8 rfl (by decide) ⟨_, I23, _, rfl, by decide, by decide, fun h => absurd h (by decide), (by have hb : s32.1 ≠ 0 := (by omega); have z1 : ∀ c, p_sg pb pn c s32 = s32 := (fun c => p_sg_Z s32 hb); have z2 : ∀ c, p_wd pb pn c s32 = s32 := (fun c => p_wd_Z s32 hb); have z3 : ∀ op, p_sum pb pn pa op s32 = s32 := (fun op => p_sum_Z s32 hb); have z4 : ∀ r oc, p_con pb pn pa r oc s32 = s32 := (fun r oc => p_con_Z s32 hb); have z5 : p_prt pb pn s32 = s32 := p_prt_Z s32 hb; have eT : p_bot pb pn pa 0 (p_oc pb pn pa 0) ps = s32 := (by unfold p_bot; simp only [e33]; exact p_lp_stop (p_bo1_Z s32 hb)); rw [eT]; exact ⟨⟨_, _, _, _, _, _, _, q41, q42, q43, q44, q45, q46, q47, h48, Im.o h49, Im.o h50⟩, (Or.inr ⟨by first | decide | omega, by omega⟩)⟩)⟩
def w_Reader_condition_q0_x : List Nat := [901, 902, 909, 910, 911, 912, 913, 914, 916, 918, 967]
set_option maxHeartbeats 100000000 in theorem tc_Reader_condition_q0_x {g : mj_G} {l : Launch} {d : Nat} {T0 : tm_H} {M0 : mj_M} {n0 x9 : Nat} {o0 : Nat} (h_o0 : T0 o0 = some (0, 9, 0)) {p : Int32} (hO : tm_at M0 o0 9 16 (.int p)) (hp : 4 ≤ p.toInt)  (hp2 : p.toInt ≤ 4) {pb : Nat → Int} {pn : Nat} {pa : Int} {ps : p_S} (yC : qC M0 o0 pb pn pa) (yD : qS M0 o0 pb pn ps) (yw : ps.1 = 0) (I0 : tm_I tm_FT (tm_in w_Reader_condition_q0_x) x9 T0 M0 n0 T0 M0 n0) : mj_Met g l kY_Reader_condition (d + 7) [.ref o0] M0 n0 0 0 (tm_Q tm_FT (tm_in w_Reader_condition_q0_x) x9 T0 M0 n0 (fun r _ M => ∃ v : Int32, r = some (.int v) ∧ 0 ≤ v.toInt ∧ v.toInt ≤ 1 ∧ (v.toInt = 1 → tm_at M o0 9 16 (.int p)) ∧ (qS M o0 pb pn (p_con pb pn pa 0 (p_oc pb pn pa 0) ps)) ∧ (v.toInt = 1 ∧ (p_con pb pn pa 0 (p_oc pb pn pa 0) ps).1 = 0 ∨ v.toInt = 0 ∧ (p_con pb pn pa 0 (p_oc pb pn pa 0) ps).1 ≠ 0))) := by
  refine mj_enter (by decide) (Nat.le_of_ble_eq_true rfl) ?_
  have hK : ∀ {T : tm_H} {M : mj_M} {n : Nat}, tm_I tm_FT (tm_in w_Reader_condition_q0_x) x9 T0 M0 n0 T M n → qC M o0 pb pn pa := fun I => yC.keep I0.1 I h_o0 (qW_of (by decide +kernel))
  obtain ⟨v1, v2, v3, v4, v5, v6, v7, q8, q9, q10, q11, q12, q13, q14, h15, h16, h17⟩ := yD
  replace h16 := Im.i h16
  replace h17 := Im.i h17
  refine mv_aload_n d_Reader_condition_0 rfl rfl ?_
  obtain ⟨_, b24, -⟩ := I0.1 _ _ h_o0
  refine mv_callV (kc' := 0) (ks' := 0) (As := []) (st9 := [.ref o0]) d_Reader_condition_1 lV_Reader_198 b24 rfl (tc_Reader_both_q0_x (d := d) (x9 := x9) (o0 := o0) h_o0 (p := p) hO (by omega) (by first | omega | decide) (hK I0) ⟨_, _, _, _, _, _, _, q8, q9, q10, q11, q12, q13, q14, h15, Im.o h16, Im.o h17⟩ (by omega) I0.start) rfl (Nat.le_of_ble_eq_true rfl) (Nat.le_of_ble_eq_true rfl) (Nat.le_of_ble_eq_true rfl) (hst := rfl) (fun b18r M19 n20 b18 => ?_)
  obtain ⟨T21, J22, v25, rfl, b26, b27, o28, f29, f30⟩ := b18
  have I23 := I0.call J22 (tm_sub (by decide)) (Or.inl rfl)
  have t31 := J22.up h_o0
  obtain ⟨s32, e33⟩ : ∃ s9 : p_S, p_bot pb pn pa 0 (p_oc pb pn pa 0) ps = s9 := ⟨_, rfl⟩
  rw [e33] at f29 f30
  obtain ⟨v34, v35, v36, v37, v38, v39, v40, q41, q42, q43, q44, q45, q46, q47, h48, h49, h50⟩ := f29
  replace h49 := Im.i h49
  replace h50 := Im.i h50
  have := mz_hi v25
  refine mv_if_neZ (tgt := 9) (a := v25.toInt) d_Reader_condition_4 (by decide) rfl (fun b51 => ?_) (fun b51 => ?_)
  · have q52 := o28 (by omega)
    refine mv_iconst (v := 0) d_Reader_condition_9 (by decide) ?_
    refine mv_istore_n (lv' := [(1, .int 0), (0, .ref o0)]) d_Reader_condition_10 rfl (by decide) rfl ?_
    have L11_53 : ∀ (k : Nat) (i1_53 : Int32) (T_53 : tm_H) (M_53 : mj_M) (n_53 : Nat), tm_I tm_FT (tm_in w_Reader_condition_q0_x) x9 T0 M0 n0 T_53 M_53 n_53 → T_53 o0 = some (0, 9, 0) → 0 ≤ i1_53.toInt → tm_at M_53 o0 9 16 (.int p) → (∃ s1 : p_S, qS M_53 o0 pb pn s1 ∧ s1.1 = 0 ∧ i1_53.toInt ≤ (s1.2.2 : Int) ∧ p_lp pn (p_co1 pb pn pa 0 (p_oc pb pn pa 0)) s1 = p_con pb pn pa 0 (p_oc pb pn pa 0) ps) → 2147483647 - i1_53.toInt < (k : Int) → mj_V g l kY_Reader_condition (d + 7) 11 [(1, .int i1_53), (0, .ref o0)] [] M_53 n_53 0 0 (tm_Q tm_FT (tm_in w_Reader_condition_q0_x) x9 T0 M0 n0 (fun r _ M => ∃ v : Int32, r = some (.int v) ∧ 0 ≤ v.toInt ∧ v.toInt ≤ 1 ∧ (v.toInt = 1 → tm_at M o0 9 16 (.int p)) ∧ (qS M o0 pb pn (p_con pb pn pa 0 (p_oc pb pn pa 0) ps)) ∧ (v.toInt = 1 ∧ (p_con pb pn pa 0 (p_oc pb pn pa 0) ps).1 = 0 ∨ v.toInt = 0 ∧ (p_con pb pn pa 0 (p_oc pb pn pa 0) ps).1 ≠ 0))) := by
      intro k53
      induction k53 with
      | zero =>
        intro i1_53 T_53 M_53 n_53 I_53 h_q0_53 iv0_53 kp0_53 kKT9_53 hk53
        have := mz_hi i1_53
        omega
      | succ k53 ih53 =>
        intro i1_53 T_53 M_53 n_53 I_53 h_q0_53 iv0_53 kp0_53 kKT9_53 hk53
        obtain ⟨s54, f55, h56, h57, e58⟩ := kKT9_53
        obtain ⟨v59, v60, v61, v62, v63, v64, v65, q66, q67, q68, q69, q70, q71, q72, h73, h74, h75⟩ := f55
        replace h74 := Im.i h74
        replace h75 := Im.i h75
        refine mv_iload_n d_Reader_condition_11 rfl rfl ?_
        refine mv_sipush (v := 400) d_Reader_condition_12 (by decide) ?_
        have := mz_hi i1_53
        refine mv_icmp_geZ (tgt := 53) (a := i1_53.toInt) (b := 400) d_Reader_condition_15 (by decide) rfl (by decide) (fun b76 => ?_) (fun b76 => ?_)
        · refine mv_iconst (v := 1) d_Reader_condition_53 (by decide) ?_
          exact mv_iret d_Reader_condition_54 rfl (by decide) ⟨_, I_53, _, rfl, by decide, by decide, fun _ => kp0_53, (by have := (Im.o h75) (by omega); have := yC.d s54.2.2; have := yC.kn s54.2.2; have hX := e58.symm.trans (p_lp_stop (show (p_co1 pb pn pa 0 (p_oc pb pn pa 0)) s54 = s54 from if_neg (fun h9 => by omega))); have eT : p_con pb pn pa 0 (p_oc pb pn pa 0) ps = s54 := (by exact hX); rw [eT]; exact ⟨⟨_, _, _, _, _, _, _, q66, q67, q68, q69, q70, q71, q72, h73, Im.o h74, Im.o h75⟩, (Or.inl ⟨by first | decide | omega, by omega⟩)⟩)⟩
        · refine mv_aload_n d_Reader_condition_18 rfl rfl ?_
          refine mv_bipush (v := 32) d_Reader_condition_19 (by decide) ?_
          obtain ⟨_, b77, -⟩ := I_53.1 _ _ h_q0_53
          refine mv_callV (kc1 := 0) (ks1 := 0) (kc' := 0) (ks' := 0) (As := [.int 32]) (st9 := [.int 32, .ref o0]) d_Reader_condition_21 lV_Reader_52 b77 rfl (mj_enter (by decide) (Nat.le_of_ble_eq_true rfl) ?_) rfl (Nat.le_of_ble_eq_true rfl) (Nat.le_of_ble_eq_true rfl) (Nat.le_of_ble_eq_true rfl) (hst := rfl) (fun _ _ _ h => h)
          refine mv_aload_n d_Reader_isWord_0 rfl rfl ?_
          refine tr_getK (k := 10) q69 d_Reader_isWord_1 f_Reader_41_9 ?_
          refine mv_iconst (v := 1) d_Reader_isWord_4 (by decide) ?_
          have := mz_hi v62
          refine mv_icmp_neZ (tgt := 20) (a := v62.toInt) (b := 1) d_Reader_isWord_5 (by decide) rfl (by decide) (fun b78 => ?_) (fun b78 => ?_)
          · refine mv_iconst (v := 0) d_Reader_isWord_20 (by decide) ?_
            refine mv_iret d_Reader_isWord_21 rfl (by decide) ?_
            refine mv_if_eq_t (tgt := 53) d_Reader_condition_24 (by decide) (by decide) ?_
            refine mv_iconst (v := 1) d_Reader_condition_53 (by decide) ?_
            exact mv_iret d_Reader_condition_54 rfl (by decide) ⟨_, I_53, _, rfl, by decide, by decide, fun _ => kp0_53, (by have := (Im.o h75) (by omega); have := yC.d s54.2.2; have := yC.kn s54.2.2; have hX := e58.symm.trans (p_lp_stop (show (p_co1 pb pn pa 0 (p_oc pb pn pa 0)) s54 = s54 from if_neg (fun h9 => by omega))); have eT : p_con pb pn pa 0 (p_oc pb pn pa 0) ps = s54 := (by exact hX); rw [eT]; exact ⟨⟨_, _, _, _, _, _, _, q66, q67, q68, q69, q70, q71, q72, h73, Im.o h74, Im.o h75⟩, (Or.inl ⟨by first | decide | omega, by omega⟩)⟩)⟩
          · refine mv_aload_n d_Reader_isWord_8 rfl rfl ?_
            refine tr_getK (k := 13) q72 d_Reader_isWord_9 f_Reader_241_9 ?_
            refine mv_iload_n d_Reader_isWord_12 rfl rfl ?_
            have := mz_hi v65
            refine mv_icmp_neZ (tgt := 20) (a := v65.toInt) (b := 32) d_Reader_isWord_13 (by decide) rfl (by decide) (fun b79 => ?_) (fun b79 => ?_)
            · refine mv_iconst (v := 0) d_Reader_isWord_20 (by decide) ?_
              refine mv_iret d_Reader_isWord_21 rfl (by decide) ?_
              refine mv_if_eq_t (tgt := 53) d_Reader_condition_24 (by decide) (by decide) ?_
              refine mv_iconst (v := 1) d_Reader_condition_53 (by decide) ?_
              exact mv_iret d_Reader_condition_54 rfl (by decide) ⟨_, I_53, _, rfl, by decide, by decide, fun _ => kp0_53, (by have := (Im.o h75) (by omega); have := yC.d s54.2.2; have := yC.kn s54.2.2; have hX := e58.symm.trans (p_lp_stop (show (p_co1 pb pn pa 0 (p_oc pb pn pa 0)) s54 = s54 from if_neg (fun h9 => by omega))); have eT : p_con pb pn pa 0 (p_oc pb pn pa 0) ps = s54 := (by exact hX); rw [eT]; exact ⟨⟨_, _, _, _, _, _, _, q66, q67, q68, q69, q70, q71, q72, h73, Im.o h74, Im.o h75⟩, (Or.inl ⟨by first | decide | omega, by omega⟩)⟩)⟩
            · refine mv_iconst (v := 1) d_Reader_isWord_16 (by decide) ?_
              refine mv_goto (tgt := 21) d_Reader_isWord_17 (by decide) ?_
              refine mv_iret d_Reader_isWord_21 rfl (by decide) ?_
              refine mv_if_eq_f (tgt := 53) d_Reader_condition_24 (by decide) (by decide) ?_
              refine mv_aload_n d_Reader_condition_27 rfl rfl ?_
              obtain ⟨_, b86, -⟩ := I_53.1 _ _ h_q0_53
              refine mv_callV (kc' := 0) (ks' := 0) (As := []) (st9 := [.ref o0]) d_Reader_condition_28 lV_Reader_82 b86 rfl (tc_Reader_advance_x (d := (d + 6)) (x9 := x9) (o0 := o0) h_q0_53 (hK I_53) (qS.a (show qS M_53 o0 pb pn s54 from ⟨_, _, _, _, _, _, _, q66, q67, q68, q69, q70, q71, q72, h73, Im.o h74, Im.o h75⟩)) (by have := (Im.o h75) (by omega); have := yC.d s54.2.2; have := yC.kn s54.2.2; show s54.2.2 + 1 ≤ 401; omega) I_53.start) rfl (Nat.le_of_ble_eq_true rfl) (Nat.le_of_ble_eq_true rfl) (Nat.le_of_ble_eq_true rfl) (hst := rfl) (fun b80r M81 n82 b80 => ?_)
              obtain ⟨T83, J84, rfl, f87⟩ := b80
              have I85 := I_53.call J84 (tm_sub (by decide)) (Or.inl rfl)
              have t88 := J84.up h_q0_53
              have q89 := J84.keep h_q0_53 (by decide) kp0_53
              have q90 := J84.keep h_q0_53 (by decide) q66
              have q91 := J84.keep h_q0_53 (by decide) q67
              obtain ⟨s92, e93⟩ : ∃ s9 : p_S, p_nx s54 = s9 := ⟨_, rfl⟩
              rw [e93] at f87
              have : s92.1 = 0 := by rw [← e93]; show s54.1 = 0; omega
              obtain ⟨v94, v95, v96, v97, v98, v99, v100, q101, q102, q103, q104, q105, q106, q107, h108, h109, h110⟩ := f87
              replace h109 := Im.i h109
              replace h110 := Im.i h110
              refine mv_aload_n d_Reader_condition_31 rfl rfl ?_
              obtain ⟨_, b117, -⟩ := I85.1 _ _ t88
              refine mv_callV (kc' := 0) (ks' := 0) (As := []) (st9 := [.ref o0]) d_Reader_condition_32 lV_Reader_198 b117 rfl (tc_Reader_both_q0_x (d := d) (x9 := x9) (o0 := o0) t88 (p := p) q89 (by omega) (by first | omega | decide) (hK I85) ⟨_, _, _, _, _, _, _, q101, q102, q103, q104, q105, q106, q107, h108, Im.o h109, Im.o h110⟩ (by omega) I85.start) rfl (Nat.le_of_ble_eq_true rfl) (Nat.le_of_ble_eq_true rfl) (Nat.le_of_ble_eq_true rfl) (hst := rfl) (fun b111r M112 n113 b111 => ?_)
              obtain ⟨T114, J115, v118, rfl, b119, b120, o121, f122, f123⟩ := b111
              have I116 := I85.call J115 (tm_sub (by decide)) (Or.inl rfl)
              have t124 := J115.up t88
              obtain ⟨s125, e126⟩ : ∃ s9 : p_S, p_bot pb pn pa 0 (p_oc pb pn pa 0) s92 = s9 := ⟨_, rfl⟩
              rw [e126] at f122 f123
              obtain ⟨v127, v128, v129, v130, v131, v132, v133, q134, q135, q136, q137, q138, q139, q140, h141, h142, h143⟩ := f122
              replace h142 := Im.i h142
              replace h143 := Im.i h143
              have := mz_hi v118
              refine mv_if_neZ (tgt := 40) (a := v118.toInt) d_Reader_condition_35 (by decide) rfl (fun b144 => ?_) (fun b144 => ?_)
              · have q145 := o121 (by omega)
                refine mv_aload_n d_Reader_condition_40 rfl rfl ?_
                refine mv_bipush (v := 10) d_Reader_condition_41 (by decide) ?_
                refine mv_iconst (v := 0) d_Reader_condition_43 (by decide) ?_
                obtain ⟨_, b152, -⟩ := I116.1 _ _ t124
                refine mv_callV (kc' := 0) (ks' := 0) (As := [.int 10, .int 0]) (st9 := [.int 0, .int 10, .ref o0]) d_Reader_condition_44 lV_Reader_203 b152 rfl (tc_Reader_emit (d := (d + 6)) (x9 := x9) (o0 := o0) (x1 := 10) (x2 := 0) t124 I116.start) rfl (Nat.le_of_ble_eq_true rfl) (Nat.le_of_ble_eq_true rfl) (Nat.le_of_ble_eq_true rfl) (hst := rfl) (fun b146r M147 n148 b146 => ?_)
                obtain ⟨T149, J150, rfl⟩ := b146
                have I151 := I116.call J150 (tm_sub (by decide)) (Or.inl rfl)
                have t153 := J150.up t124
                have q154 := J150.keep (I116.up h_o0) (by decide) q134
                have q155 := J150.keep (I116.up h_o0) (by decide) q135
                have q156 := J150.keep (I116.up h_o0) (by decide) q136
                have q157 := J150.keep (I116.up h_o0) (by decide) q137
                have q158 := J150.keep (I116.up h_o0) (by decide) q138
                have q159 := J150.keep (I116.up h_o0) (by decide) q139
                have q160 := J150.keep (I116.up h_o0) (by decide) q140
                have q161 := J150.keep t124 (by decide) q145
                refine mv_iinc (v := (i1_53 + 1)) (lv' := [(1, .int (i1_53 + 1)), (0, .ref o0)]) d_Reader_condition_47 rfl rfl (by decide) rfl ?_
                refine mv_goto (tgt := 11) d_Reader_condition_50 (by decide) ?_
                have : (i1_53 + 1 : Int32).toInt = i1_53.toInt + 1 := mz_addn 1 1 (by decide) (by omega) (by omega)
                have T162 : ∃ s1 : p_S, qS M147 o0 pb pn s1 ∧ s1.1 = 0 ∧ (i1_53 + 1).toInt ≤ (s1.2.2 : Int) ∧ p_lp pn (p_co1 pb pn pa 0 (p_oc pb pn pa 0)) s1 = p_con pb pn pa 0 (p_oc pb pn pa 0) ps := ⟨s125, ⟨_, _, _, _, _, _, _, q154, q155, q156, q157, q158, q159, q160, h141, Im.o h142, Im.o h143⟩, by omega, (by have h9 : s54.2.2 + 1 ≤ s125.2.2 := (by rw [← e126, ← e93]; exact p_bot_M (p_oc_M _) (p_nx s54)); omega), (by have := (Im.o h75) (by omega); have := yC.d s54.2.2; have := yC.kn s54.2.2; have st : (p_co1 pb pn pa 0 (p_oc pb pn pa 0)) s54 = s125 := (by rw [show (p_co1 pb pn pa 0 (p_oc pb pn pa 0)) s54 = p_bot pb pn pa 0 (p_oc pb pn pa 0) (p_nx s54) from if_pos ⟨by omega, by omega⟩]; simp only [e93, e126]); rw [← st, p_P.go (p_co1_P (p_oc_M _)) s54]; exact e58)⟩
                have b163 : (i1_53 + 1).toInt = i1_53.toInt + 1 := mz_addn 1 1 (by decide) (by have := mz_lo i1_53; omega) (by have := mz_hi i1_53; omega)
                exact (ih53 (i1_53 + 1) T149 M147 n148 I151 t153 (by first | omega | decide) q161 T162 (by omega))
              · refine mv_iconst (v := 0) d_Reader_condition_38 (by decide) ?_
                exact mv_iret d_Reader_condition_39 rfl (by decide) ⟨_, I116, _, rfl, by decide, by decide, fun h => absurd h (by decide), (by have := (Im.o h75) (by omega); have := yC.d s54.2.2; have := yC.kn s54.2.2; have hb : s125.1 ≠ 0 := (by omega); have z1 : ∀ c, p_sg pb pn c s125 = s125 := (fun c => p_sg_Z s125 hb); have z2 : ∀ c, p_wd pb pn c s125 = s125 := (fun c => p_wd_Z s125 hb); have z3 : ∀ op, p_sum pb pn pa op s125 = s125 := (fun op => p_sum_Z s125 hb); have z4 : ∀ r oc, p_con pb pn pa r oc s125 = s125 := (fun r oc => p_con_Z s125 hb); have z5 : p_prt pb pn s125 = s125 := p_prt_Z s125 hb; have st : (p_co1 pb pn pa 0 (p_oc pb pn pa 0)) s54 = s125 := (by rw [show (p_co1 pb pn pa 0 (p_oc pb pn pa 0)) s54 = p_bot pb pn pa 0 (p_oc pb pn pa 0) (p_nx s54) from if_pos ⟨by omega, by omega⟩]; simp only [e93, e126]); have eT : p_con pb pn pa 0 (p_oc pb pn pa 0) ps = s125 := (by rw [← e58, ← p_P.go (p_co1_P (p_oc_M _)) s54, st]; exact p_lp_stop (p_co1_Z s125 hb)); rw [eT]; exact ⟨⟨_, _, _, _, _, _, _, q134, q135, q136, q137, q138, q139, q140, h141, Im.o h142, Im.o h143⟩, (Or.inr ⟨by first | decide | omega, by omega⟩)⟩)⟩
    have T164 : ∃ s1 : p_S, qS M19 o0 pb pn s1 ∧ s1.1 = 0 ∧ 0 ≤ (s1.2.2 : Int) ∧ p_lp pn (p_co1 pb pn pa 0 (p_oc pb pn pa 0)) s1 = p_con pb pn pa 0 (p_oc pb pn pa 0) ps := ⟨s32, ⟨_, _, _, _, _, _, _, q41, q42, q43, q44, q45, q46, q47, h48, Im.o h49, Im.o h50⟩, by omega, (by show (0 : Int) ≤ _; omega), (by rw [← e33]; rfl)⟩
    exact mv_less (Nat.zero_le _) (Nat.zero_le _) (L11_53 4294967296 0 T21 M19 n20 I23 t31 (by first | omega | decide) q52 T164 (by show (2147483647 - (0 : Int) : Int) < _; decide))
  · refine mv_iconst (v := 0) d_Reader_condition_7 (by decide) ?_
    exact mv_iret d_Reader_condition_8 rfl (by decide) ⟨_, I23, _, rfl, by decide, by decide, fun h => absurd h (by decide), (by have hb : s32.1 ≠ 0 := (by omega); have z1 : ∀ c, p_sg pb pn c s32 = s32 := (fun c => p_sg_Z s32 hb); have z2 : ∀ c, p_wd pb pn c s32 = s32 := (fun c => p_wd_Z s32 hb); have z3 : ∀ op, p_sum pb pn pa op s32 = s32 := (fun op => p_sum_Z s32 hb); have z4 : ∀ r oc, p_con pb pn pa r oc s32 = s32 := (fun r oc => p_con_Z s32 hb); have z5 : p_prt pb pn s32 = s32 := p_prt_Z s32 hb; have eT : p_con pb pn pa 0 (p_oc pb pn pa 0) ps = s32 := (by unfold p_con; simp only [e33]; exact p_lp_stop (p_co1_Z s32 hb)); rw [eT]; exact ⟨⟨_, _, _, _, _, _, _, q41, q42, q43, q44, q45, q46, q47, h48, Im.o h49, Im.o h50⟩, (Or.inr ⟨by first | decide | omega, by omega⟩)⟩)⟩
