abbrev kY_TrustDeskModel_isBarred : mj_Y := (⟨"TrustDeskModel", "isBarred", "(I)Z"⟩, prog_14_method_80_code, 5, (Option.some Jvm.ClassFile.FieldType.boolean))
theorem d_TrustDeskModel_isBarred_0 : decode kY_TrustDeskModel_isBarred.2.1 0 = .ok (.aload_n 0, 1) := by decide +kernel
theorem d_TrustDeskModel_isBarred_1 : decode kY_TrustDeskModel_isBarred.2.1 1 = .ok (.aload_n 0, 1) := by decide +kernel
theorem d_TrustDeskModel_isBarred_2 : decode kY_TrustDeskModel_isBarred.2.1 2 = .ok (.getfield 164, 3) := by decide +kernel
theorem d_TrustDeskModel_isBarred_5 : decode kY_TrustDeskModel_isBarred.2.1 5 = .ok (.invokevirtual 391, 3) := by decide +kernel
theorem d_TrustDeskModel_isBarred_8 : decode kY_TrustDeskModel_isBarred.2.1 8 = .ok (.istore_n 2, 1) := by decide +kernel
theorem d_TrustDeskModel_isBarred_9 : decode kY_TrustDeskModel_isBarred.2.1 9 = .ok (.aload_n 0, 1) := by decide +kernel
theorem d_TrustDeskModel_isBarred_10 : decode kY_TrustDeskModel_isBarred.2.1 10 = .ok (.aload_n 0, 1) := by decide +kernel
theorem d_TrustDeskModel_isBarred_11 : decode kY_TrustDeskModel_isBarred.2.1 11 = .ok (.getfield 125, 3) := by decide +kernel
theorem f_TrustDeskModel_125_13 : mj_fl "TrustDeskModel" 125 13 55 := ⟨kR_TrustDeskModel, kF_TrustDeskModel, 72, "TrustDeskModel", rfl, kg_13, by decide, (mj_in1 (List.mem_of_getElem? (i := 1441) (by decide +kernel)) rfl), Or.inl rfl⟩
theorem d_TrustDeskModel_isBarred_14 : decode kY_TrustDeskModel_isBarred.2.1 14 = .ok (.iload_n 1, 1) := by decide +kernel
theorem d_TrustDeskModel_isBarred_15 : decode kY_TrustDeskModel_isBarred.2.1 15 = .ok (.iaload, 1) := by decide +kernel
theorem d_TrustDeskModel_isBarred_16 : decode kY_TrustDeskModel_isBarred.2.1 16 = .ok (.aload_n 0, 1) := by decide +kernel
theorem d_TrustDeskModel_isBarred_17 : decode kY_TrustDeskModel_isBarred.2.1 17 = .ok (.invokevirtual 518, 3) := by decide +kernel
theorem d_TrustDeskModel_isBarred_20 : decode kY_TrustDeskModel_isBarred.2.1 20 = .ok (.aload_n 0, 1) := by decide +kernel
theorem d_TrustDeskModel_isBarred_21 : decode kY_TrustDeskModel_isBarred.2.1 21 = .ok (.getfield 164, 3) := by decide +kernel
theorem d_TrustDeskModel_isBarred_24 : decode kY_TrustDeskModel_isBarred.2.1 24 = .ok (.invokevirtual 459, 3) := by decide +kernel
theorem d_TrustDeskModel_isBarred_27 : decode kY_TrustDeskModel_isBarred.2.1 27 = .ok (.iconst 0, 1) := by decide +kernel
theorem d_TrustDeskModel_isBarred_28 : decode kY_TrustDeskModel_isBarred.2.1 28 = .ok (.istore_n 3, 1) := by decide +kernel
theorem d_TrustDeskModel_isBarred_29 : decode kY_TrustDeskModel_isBarred.2.1 29 = .ok (.iload_n 2, 1) := by decide +kernel
theorem d_TrustDeskModel_isBarred_30 : decode kY_TrustDeskModel_isBarred.2.1 30 = .ok (.iconst (-1), 1) := by decide +kernel
theorem d_TrustDeskModel_isBarred_31 : decode kY_TrustDeskModel_isBarred.2.1 31 = .ok (.if_icmp .eq 80, 3) := by decide +kernel
theorem d_TrustDeskModel_isBarred_111 : decode kY_TrustDeskModel_isBarred.2.1 111 = .ok (.iconst 0, 1) := by decide +kernel
theorem d_TrustDeskModel_isBarred_112 : decode kY_TrustDeskModel_isBarred.2.1 112 = .ok (.ireturn, 1) := by decide +kernel
theorem d_TrustDeskModel_isBarred_34 : decode kY_TrustDeskModel_isBarred.2.1 34 = .ok (.iload_n 3, 1) := by decide +kernel
theorem d_TrustDeskModel_isBarred_35 : decode kY_TrustDeskModel_isBarred.2.1 35 = .ok (.aload_n 0, 1) := by decide +kernel
theorem d_TrustDeskModel_isBarred_36 : decode kY_TrustDeskModel_isBarred.2.1 36 = .ok (.getfield 23, 3) := by decide +kernel
theorem d_TrustDeskModel_isBarred_39 : decode kY_TrustDeskModel_isBarred.2.1 39 = .ok (.iload_n 2, 1) := by decide +kernel
theorem d_TrustDeskModel_isBarred_40 : decode kY_TrustDeskModel_isBarred.2.1 40 = .ok (.iaload, 1) := by decide +kernel
theorem d_TrustDeskModel_isBarred_41 : decode kY_TrustDeskModel_isBarred.2.1 41 = .ok (.if_icmp .ge 70, 3) := by decide +kernel
theorem d_TrustDeskModel_isBarred_44 : decode kY_TrustDeskModel_isBarred.2.1 44 = .ok (.bipush 20, 2) := by decide +kernel
theorem d_TrustDeskModel_isBarred_46 : decode kY_TrustDeskModel_isBarred.2.1 46 = .ok (.iload_n 2, 1) := by decide +kernel
theorem d_TrustDeskModel_isBarred_47 : decode kY_TrustDeskModel_isBarred.2.1 47 = .ok (.imul, 1) := by decide +kernel
theorem d_TrustDeskModel_isBarred_48 : decode kY_TrustDeskModel_isBarred.2.1 48 = .ok (.iload_n 3, 1) := by decide +kernel
theorem d_TrustDeskModel_isBarred_49 : decode kY_TrustDeskModel_isBarred.2.1 49 = .ok (.iadd, 1) := by decide +kernel
theorem d_TrustDeskModel_isBarred_50 : decode kY_TrustDeskModel_isBarred.2.1 50 = .ok (.istore 4, 2) := by decide +kernel
theorem d_TrustDeskModel_isBarred_52 : decode kY_TrustDeskModel_isBarred.2.1 52 = .ok (.aload_n 0, 1) := by decide +kernel
theorem d_TrustDeskModel_isBarred_53 : decode kY_TrustDeskModel_isBarred.2.1 53 = .ok (.getfield 26, 3) := by decide +kernel
theorem d_TrustDeskModel_isBarred_56 : decode kY_TrustDeskModel_isBarred.2.1 56 = .ok (.iload 4, 2) := by decide +kernel
theorem d_TrustDeskModel_isBarred_58 : decode kY_TrustDeskModel_isBarred.2.1 58 = .ok (.iaload, 1) := by decide +kernel
theorem d_TrustDeskModel_isBarred_59 : decode kY_TrustDeskModel_isBarred.2.1 59 = .ok (.bipush 6, 2) := by decide +kernel
theorem d_TrustDeskModel_isBarred_61 : decode kY_TrustDeskModel_isBarred.2.1 61 = .ok (.if_icmp .ne 44, 3) := by decide +kernel
theorem d_TrustDeskModel_isBarred_105 : decode kY_TrustDeskModel_isBarred.2.1 105 = .ok (.iinc 3 1, 3) := by decide +kernel
theorem d_TrustDeskModel_isBarred_108 : decode kY_TrustDeskModel_isBarred.2.1 108 = .ok (.goto (-79), 3) := by decide +kernel
theorem d_TrustDeskModel_isBarred_64 : decode kY_TrustDeskModel_isBarred.2.1 64 = .ok (.aload_n 0, 1) := by decide +kernel
theorem d_TrustDeskModel_isBarred_65 : decode kY_TrustDeskModel_isBarred.2.1 65 = .ok (.getfield 29, 3) := by decide +kernel
theorem d_TrustDeskModel_isBarred_68 : decode kY_TrustDeskModel_isBarred.2.1 68 = .ok (.iload 4, 2) := by decide +kernel
theorem d_TrustDeskModel_isBarred_70 : decode kY_TrustDeskModel_isBarred.2.1 70 = .ok (.iaload, 1) := by decide +kernel
theorem d_TrustDeskModel_isBarred_71 : decode kY_TrustDeskModel_isBarred.2.1 71 = .ok (.aload_n 0, 1) := by decide +kernel
theorem d_TrustDeskModel_isBarred_72 : decode kY_TrustDeskModel_isBarred.2.1 72 = .ok (.getfield 122, 3) := by decide +kernel
theorem f_TrustDeskModel_122_13 : mj_fl "TrustDeskModel" 122 13 54 := ⟨kR_TrustDeskModel, kF_TrustDeskModel, 72, "TrustDeskModel", rfl, kg_13, by decide, (mj_in1 (List.mem_of_getElem? (i := 1440) (by decide +kernel)) rfl), Or.inl rfl⟩
theorem d_TrustDeskModel_isBarred_75 : decode kY_TrustDeskModel_isBarred.2.1 75 = .ok (.iload_n 1, 1) := by decide +kernel
theorem d_TrustDeskModel_isBarred_76 : decode kY_TrustDeskModel_isBarred.2.1 76 = .ok (.iaload, 1) := by decide +kernel
theorem d_TrustDeskModel_isBarred_77 : decode kY_TrustDeskModel_isBarred.2.1 77 = .ok (.if_icmp .ne 28, 3) := by decide +kernel
theorem d_TrustDeskModel_isBarred_80 : decode kY_TrustDeskModel_isBarred.2.1 80 = .ok (.aload_n 0, 1) := by decide +kernel
theorem d_TrustDeskModel_isBarred_81 : decode kY_TrustDeskModel_isBarred.2.1 81 = .ok (.iload_n 2, 1) := by decide +kernel
theorem d_TrustDeskModel_isBarred_82 : decode kY_TrustDeskModel_isBarred.2.1 82 = .ok (.aload_n 0, 1) := by decide +kernel
theorem d_TrustDeskModel_isBarred_83 : decode kY_TrustDeskModel_isBarred.2.1 83 = .ok (.getfield 38, 3) := by decide +kernel
theorem d_TrustDeskModel_isBarred_86 : decode kY_TrustDeskModel_isBarred.2.1 86 = .ok (.iload 4, 2) := by decide +kernel
theorem d_TrustDeskModel_isBarred_88 : decode kY_TrustDeskModel_isBarred.2.1 88 = .ok (.iaload, 1) := by decide +kernel
theorem d_TrustDeskModel_isBarred_89 : decode kY_TrustDeskModel_isBarred.2.1 89 = .ok (.aload_n 0, 1) := by decide +kernel
theorem d_TrustDeskModel_isBarred_90 : decode kY_TrustDeskModel_isBarred.2.1 90 = .ok (.getfield 41, 3) := by decide +kernel
theorem d_TrustDeskModel_isBarred_93 : decode kY_TrustDeskModel_isBarred.2.1 93 = .ok (.iload 4, 2) := by decide +kernel
theorem d_TrustDeskModel_isBarred_95 : decode kY_TrustDeskModel_isBarred.2.1 95 = .ok (.iaload, 1) := by decide +kernel
theorem d_TrustDeskModel_isBarred_96 : decode kY_TrustDeskModel_isBarred.2.1 96 = .ok (.invokevirtual 447, 3) := by decide +kernel
theorem d_TrustDeskModel_isBarred_99 : decode kY_TrustDeskModel_isBarred.2.1 99 = .ok (.iconst 1, 1) := by decide +kernel
theorem d_TrustDeskModel_isBarred_100 : decode kY_TrustDeskModel_isBarred.2.1 100 = .ok (.if_icmp .ne 5, 3) := by decide +kernel
theorem d_TrustDeskModel_isBarred_103 : decode kY_TrustDeskModel_isBarred.2.1 103 = .ok (.iconst 1, 1) := by decide +kernel
theorem d_TrustDeskModel_isBarred_104 : decode kY_TrustDeskModel_isBarred.2.1 104 = .ok (.ireturn, 1) := by decide +kernel
def w_TrustDeskModel_isBarred_x : List Nat := [1331, 20029, 20030]
set_option maxHeartbeats 100000000 in theorem tc_TrustDeskModel_isBarred_x {g : mj_G} {l : Launch} {d : Nat} {T0 : tm_H} {M0 : mj_M} {n0 x9 : Nat} {o0 : Nat} {x1 : Int32} (h_o0 : T0 o0 = some (0, 13, 0)) (hn0 : 0 ≤ x1.toInt ∧ x1.toInt ≤ 39) (yR : rI M0 o0) (yC : rC M0 o0 44) (I0 : tm_I tm_FT (tm_in w_TrustDeskModel_isBarred_x) x9 T0 M0 n0 T0 M0 n0) : mj_Met g l kY_TrustDeskModel_isBarred (d + 3) [.ref o0, .int x1] M0 n0 0 0 (tm_Q tm_FT (tm_in w_TrustDeskModel_isBarred_x) x9 T0 M0 n0 (fun r _ M => ∃ v : Int32, r = some (.int v) ∧ 0 ≤ v.toInt ∧ v.toInt ≤ 1 ∧ rI M o0)) := by
  refine mj_enter (by decide) (Nat.le_of_ble_eq_true rfl) ?_
  have K1 : rC M0 o0 44 := yC
  refine mv_aload_n d_TrustDeskModel_isBarred_0 rfl rfl ?_
  refine mv_aload_n d_TrustDeskModel_isBarred_1 rfl rfl ?_
  obtain ⟨v3, q2⟩ := tm_atI I0 h_o0 (k := 1) rfl
  refine tr_getK q2 d_TrustDeskModel_isBarred_2 f_TrustDeskModel_164_13 ?_
  have := yR.f (k := 1) q2 rfl
  obtain ⟨_, b10, -⟩ := I0.1 _ _ h_o0
  refine mv_callV (kc' := 0) (ks' := 0) (As := [.int v3]) (st9 := [.int v3, .ref o0]) d_TrustDeskModel_isBarred_5 lV_TrustDeskModel_391 b10 rfl (tc_TrustDeskModel_actOn_x (d := (d + 2)) (x9 := x9) (o0 := o0) (x1 := v3) h_o0 yR I0.start) rfl (Nat.le_of_ble_eq_true rfl) (Nat.le_of_ble_eq_true rfl) (Nat.le_of_ble_eq_true rfl) (hst := rfl) (fun b4r M5 n6 b4 => ?_)
  obtain ⟨T7, J8, v11, rfl, R12, f13⟩ := b4
  have I9 := I0.call J8 (tm_sub (by decide)) (Or.inl rfl)
  have t14 := J8.up h_o0
  have K15 : rC M5 o0 44 := K1.same (sA_c I0 J8 (I0.up h_o0) (by decide +kernel)) (sF_c I0 J8 (I0.up h_o0) (by decide +kernel))
  have q16 := J8.keep h_o0 (by decide) q2
  refine mv_istore_n (lv' := [(2, .int v11), (0, .ref o0), (1, .int x1)]) d_TrustDeskModel_isBarred_8 rfl (by decide) rfl ?_
  refine mv_aload_n d_TrustDeskModel_isBarred_9 rfl rfl ?_
  refine mv_aload_n d_TrustDeskModel_isBarred_10 rfl rfl ?_
  obtain ⟨a18, q17, t_a18⟩ := tm_atR I9 t14 (k := 55) rfl
  refine tr_getK q17 d_TrustDeskModel_isBarred_11 f_TrustDeskModel_125_13 ?_
  refine mv_iload_n d_TrustDeskModel_isBarred_14 rfl rfl ?_
  refine tr_ialdR (o := o0) (k := 55) I9 q17 t_a18 (by decide) d_TrustDeskModel_isBarred_15 (vp_in_iff.mpr (by omega)) (fun v19 e20 => ?_)
  have := R12.a (k := 55) rfl (x1 : Int32).toNatClampNeg
  refine mv_aload_n d_TrustDeskModel_isBarred_16 rfl rfl ?_
  obtain ⟨_, b21, -⟩ := I9.1 _ _ t14
  refine mv_callV (kc1 := 0) (ks1 := 0) (kc' := 0) (ks' := 0) (As := []) (st9 := [.ref o0, .int v19, .ref o0]) d_TrustDeskModel_isBarred_17 lV_TrustDeskModel_518 b21 rfl (mj_enter (by decide) (Nat.le_of_ble_eq_true rfl) ?_) rfl (Nat.le_of_ble_eq_true rfl) (Nat.le_of_ble_eq_true rfl) (Nat.le_of_ble_eq_true rfl) (hst := rfl) (fun _ _ _ h => h)
  refine mv_aload_n d_TrustDeskModel_year_0 rfl rfl ?_
  refine tr_getK (k := 1) q16 d_TrustDeskModel_year_1 f_TrustDeskModel_164_13 ?_
  refine mv_sipush (v := 360) d_TrustDeskModel_year_4 (by decide) ?_
  have : (v3 / 360 : Int32).toInt = v3.toInt / 360 := mz_div (by decide) (by decide) (by omega)
  refine mv_idiv d_TrustDeskModel_year_7 (by decide) ?_
  refine mv_iret d_TrustDeskModel_year_8 rfl (by first | rfl | decide) ?_
  refine mv_aload_n d_TrustDeskModel_isBarred_20 rfl rfl ?_
  refine tr_getK (k := 1) q16 d_TrustDeskModel_isBarred_21 f_TrustDeskModel_164_13 ?_
  obtain ⟨_, b28, -⟩ := I9.1 _ _ t14
  refine mv_callV (kc' := 0) (ks' := 0) (As := [.int v19, .int (v3 / 360), .int v3]) (st9 := [.int v3, .int (v3 / 360), .int v19, .ref o0]) d_TrustDeskModel_isBarred_24 lV_TrustDeskModel_459 b28 rfl (tc_TrustDeskModel_names_x (d := d) (x9 := x9) (o0 := o0) (x1 := v19) (x2 := (v3 / 360)) (x3 := v3) t14 (by omega) R12 I9.start) rfl (Nat.le_of_ble_eq_true rfl) (Nat.le_of_ble_eq_true rfl) (Nat.le_of_ble_eq_true rfl) (hst := rfl) (fun b22r M23 n24 b22 => ?_)
  obtain ⟨T25, J26, rfl, R29⟩ := b22
  have I27 := I9.call J26 (tm_sub (by decide)) (Or.inl rfl)
  have t30 := J26.up t14
  have K31 : rC M23 o0 44 := K15.same (sA_c I9 J26 (I9.up h_o0) (by decide +kernel)) (sF_c I9 J26 (I9.up h_o0) (by decide +kernel))
  have q32 := J26.keep t14 (by decide) q16
  have q33 := J26.keep t14 (by decide) q17
  have t34 := J26.up t_a18
  refine mv_iconst (v := 0) d_TrustDeskModel_isBarred_27 (by decide) ?_
  refine mv_istore_n (lv' := [(3, .int 0), (2, .int v11), (0, .ref o0), (1, .int x1)]) d_TrustDeskModel_isBarred_28 rfl (by decide) rfl ?_
  have L29_35 : ∀ (k : Nat) (i3_35 : Int32) (T_35 : tm_H) (M_35 : mj_M) (n_35 : Nat), tm_I tm_FT (tm_in w_TrustDeskModel_isBarred_x) x9 T0 M0 n0 T_35 M_35 n_35 → T_35 o0 = some (0, 13, 0) → 0 ≤ i3_35.toInt → (rI M_35 o0) → (rC M_35 o0 44) → 2147483647 - i3_35.toInt < (k : Int) → mj_V g l kY_TrustDeskModel_isBarred (d + 3) 29 [(3, .int i3_35), (2, .int v11), (0, .ref o0), (1, .int x1)] [] M_35 n_35 0 0 (tm_Q tm_FT (tm_in w_TrustDeskModel_isBarred_x) x9 T0 M0 n0 (fun r _ M => ∃ v : Int32, r = some (.int v) ∧ 0 ≤ v.toInt ∧ v.toInt ≤ 1 ∧ rI M o0)) := by
    intro k35
    induction k35 with
    | zero =>
      intro i3_35 T_35 M_35 n_35 I_35 h_q0_35 iv0_35 kKR_35 kKC_35 hk35
      have := mz_hi i3_35
      have := kKR_35.1 15 _ _ rfl
      have := kKR_35.1 16 _ _ rfl
      have := kKR_35.1 19 _ _ rfl
      omega
    | succ k35 ih35 =>
      intro i3_35 T_35 M_35 n_35 I_35 h_q0_35 iv0_35 kKR_35 kKC_35 hk35
      refine mv_iload_n d_TrustDeskModel_isBarred_29 rfl rfl ?_
      refine mv_iconst (v := (-1)) d_TrustDeskModel_isBarred_30 (by decide) ?_
      have := mz_hi v11
      refine mv_icmp_eqZ (tgt := 111) (a := v11.toInt) (b := (-1)) d_TrustDeskModel_isBarred_31 (by decide) rfl (by decide) (fun b36 => ?_) (fun b36 => ?_)
      · refine mv_iconst (v := 0) d_TrustDeskModel_isBarred_111 (by decide) ?_
        exact mv_iret d_TrustDeskModel_isBarred_112 rfl (by decide) ⟨_, I_35, _, rfl, by decide, by decide, kKR_35⟩
      · refine mv_iload_n d_TrustDeskModel_isBarred_34 rfl rfl ?_
        refine mv_aload_n d_TrustDeskModel_isBarred_35 rfl rfl ?_
        obtain ⟨a38, q37, t_a38⟩ := tm_atR I_35 h_q0_35 (k := 6) rfl
        refine tr_getK q37 d_TrustDeskModel_isBarred_36 f_TrustDeskModel_23_13 ?_
        refine mv_iload_n d_TrustDeskModel_isBarred_39 rfl rfl ?_
        refine tr_ialdR (o := o0) (k := 6) I_35 q37 t_a38 (by decide) d_TrustDeskModel_isBarred_40 (vp_in_iff.mpr (by omega)) (fun v39 e40 => ?_)
        have := kKR_35.a (k := 6) rfl (v11 : Int32).toNatClampNeg
        have := mz_hi i3_35
        have := mz_hi v39
        refine mv_icmp_geZ (tgt := 111) (a := i3_35.toInt) (b := v39.toInt) d_TrustDeskModel_isBarred_41 (by decide) rfl rfl (fun b41 => ?_) (fun b41 => ?_)
        · refine mv_iconst (v := 0) d_TrustDeskModel_isBarred_111 (by decide) ?_
          exact mv_iret d_TrustDeskModel_isBarred_112 rfl (by decide) ⟨_, I_35, _, rfl, by decide, by decide, kKR_35⟩
        · refine mv_bipush (v := 20) d_TrustDeskModel_isBarred_44 (by decide) ?_
          refine mv_iload_n d_TrustDeskModel_isBarred_46 rfl rfl ?_
          refine mv_imul d_TrustDeskModel_isBarred_47 ?_
          refine mv_iload_n d_TrustDeskModel_isBarred_48 rfl rfl ?_
          refine mv_iadd d_TrustDeskModel_isBarred_49 ?_
          refine mv_istore (lv' := [(4, .int ((20 * v11) + i3_35)), (3, .int i3_35), (2, .int v11), (0, .ref o0), (1, .int x1)]) d_TrustDeskModel_isBarred_50 (by decide) rfl ?_
          refine mv_aload_n d_TrustDeskModel_isBarred_52 rfl rfl ?_
          obtain ⟨a43, q42, t_a43⟩ := tm_atR I_35 h_q0_35 (k := 7) rfl
          refine tr_getK q42 d_TrustDeskModel_isBarred_53 f_TrustDeskModel_26_13 ?_
          refine mv_iload d_TrustDeskModel_isBarred_56 rfl ?_
          have b44 : (20 * v11 : Int32).toInt = (20 * v11.toInt) := mz_mul2 (by decide) rfl (by omega) (by omega)
          have b45 : ((20 * v11) + i3_35 : Int32).toInt = ((20 * v11.toInt) + i3_35.toInt) := mz_add2 b44 rfl (by omega) (by omega)
          refine tr_ialdR (o := o0) (k := 7) I_35 q42 t_a43 (by decide) d_TrustDeskModel_isBarred_58 (vp_in_iff.mpr (by omega)) (fun v46 e47 => ?_)
          refine mv_bipush (v := 6) d_TrustDeskModel_isBarred_59 (by decide) ?_
          have := mz_hi v46
          refine mv_icmp_neZ (tgt := 105) (a := v46.toInt) (b := 6) d_TrustDeskModel_isBarred_61 (by decide) rfl (by decide) (fun b48 => ?_) (fun b48 => ?_)
          · refine mv_iinc (v := (i3_35 + 1)) (lv' := [(3, .int (i3_35 + 1)), (4, .int ((20 * v11) + i3_35)), (2, .int v11), (0, .ref o0), (1, .int x1)]) d_TrustDeskModel_isBarred_105 rfl rfl (by decide) rfl ?_
            refine mv_goto (tgt := 29) d_TrustDeskModel_isBarred_108 (by decide) ?_
            have b49 : (i3_35 + 1 : Int32).toInt = (i3_35.toInt + 1) := mz_add2 rfl (by decide) (by omega) (by omega)
            refine mv_locals (lv' := [(3, .int (i3_35 + 1)), (2, .int v11), (0, .ref o0), (1, .int x1)]) (by intro q hq; simp only [List.mem_cons, List.not_mem_nil, or_false] at hq; rcases hq with rfl | rfl | rfl | rfl <;> rfl) ?_
            have b50 : (i3_35 + 1).toInt = i3_35.toInt + 1 := mz_addn 1 1 (by decide) (by have := mz_lo i3_35; omega) (by have := mz_hi i3_35; omega)
            exact (ih35 (i3_35 + 1) T_35 M_35 n_35 I_35 h_q0_35 (by first | omega | decide | exact fun h9 => absurd (by decide) h9) kKR_35 kKC_35 (by omega))
          · refine mv_aload_n d_TrustDeskModel_isBarred_64 rfl rfl ?_
            obtain ⟨a52, q51, t_a52⟩ := tm_atR I_35 h_q0_35 (k := 8) rfl
            refine tr_getK q51 d_TrustDeskModel_isBarred_65 f_TrustDeskModel_29_13 ?_
            refine mv_iload d_TrustDeskModel_isBarred_68 rfl ?_
            have b53 : (20 * v11 : Int32).toInt = (20 * v11.toInt) := mz_mul2 (by decide) rfl (by omega) (by omega)
            have b54 : ((20 * v11) + i3_35 : Int32).toInt = ((20 * v11.toInt) + i3_35.toInt) := mz_add2 b53 rfl (by omega) (by omega)
            refine tr_ialdR (o := o0) (k := 8) I_35 q51 t_a52 (by decide) d_TrustDeskModel_isBarred_70 (vp_in_iff.mpr (by omega)) (fun v55 e56 => ?_)
            have := kKR_35.a (k := 8) rfl (((20 * v11) + i3_35) : Int32).toNatClampNeg
            refine mv_aload_n d_TrustDeskModel_isBarred_71 rfl rfl ?_
            obtain ⟨a58, q57, t_a58⟩ := tm_atR I_35 h_q0_35 (k := 54) rfl
            refine tr_getK q57 d_TrustDeskModel_isBarred_72 f_TrustDeskModel_122_13 ?_
            refine mv_iload_n d_TrustDeskModel_isBarred_75 rfl rfl ?_
            refine tr_ialdR (o := o0) (k := 54) I_35 q57 t_a58 (by decide) d_TrustDeskModel_isBarred_76 (vp_in_iff.mpr (by omega)) (fun v59 e60 => ?_)
            have := kKR_35.a (k := 54) rfl (x1 : Int32).toNatClampNeg
            have := mz_hi v55
            have := mz_hi v59
            refine mv_icmp_neZ (tgt := 105) (a := v55.toInt) (b := v59.toInt) d_TrustDeskModel_isBarred_77 (by decide) rfl rfl (fun b61 => ?_) (fun b61 => ?_)
            · refine mv_iinc (v := (i3_35 + 1)) (lv' := [(3, .int (i3_35 + 1)), (4, .int ((20 * v11) + i3_35)), (2, .int v11), (0, .ref o0), (1, .int x1)]) d_TrustDeskModel_isBarred_105 rfl rfl (by decide) rfl ?_
              refine mv_goto (tgt := 29) d_TrustDeskModel_isBarred_108 (by decide) ?_
              have b62 : (i3_35 + 1 : Int32).toInt = (i3_35.toInt + 1) := mz_add2 rfl (by decide) (by omega) (by omega)
              refine mv_locals (lv' := [(3, .int (i3_35 + 1)), (2, .int v11), (0, .ref o0), (1, .int x1)]) (by intro q hq; simp only [List.mem_cons, List.not_mem_nil, or_false] at hq; rcases hq with rfl | rfl | rfl | rfl <;> rfl) ?_
              have b63 : (i3_35 + 1).toInt = i3_35.toInt + 1 := mz_addn 1 1 (by decide) (by have := mz_lo i3_35; omega) (by have := mz_hi i3_35; omega)
              exact (ih35 (i3_35 + 1) T_35 M_35 n_35 I_35 h_q0_35 (by first | omega | decide | exact fun h9 => absurd (by decide) h9) kKR_35 kKC_35 (by omega))
            · refine mv_aload_n d_TrustDeskModel_isBarred_80 rfl rfl ?_
              refine mv_iload_n d_TrustDeskModel_isBarred_81 rfl rfl ?_
              refine mv_aload_n d_TrustDeskModel_isBarred_82 rfl rfl ?_
              obtain ⟨a65, q64, t_a65⟩ := tm_atR I_35 h_q0_35 (k := 11) rfl
              refine tr_getK q64 d_TrustDeskModel_isBarred_83 f_TrustDeskModel_38_13 ?_
              refine mv_iload d_TrustDeskModel_isBarred_86 rfl ?_
              have b66 : (20 * v11 : Int32).toInt = (20 * v11.toInt) := mz_mul2 (by decide) rfl (by omega) (by omega)
              have b67 : ((20 * v11) + i3_35 : Int32).toInt = ((20 * v11.toInt) + i3_35.toInt) := mz_add2 b66 rfl (by omega) (by omega)
              refine tr_ialdR (o := o0) (k := 11) I_35 q64 t_a65 (by decide) d_TrustDeskModel_isBarred_88 (vp_in_iff.mpr (by omega)) (fun v68 e69 => ?_)
              have := kKR_35.a (k := 11) rfl (((20 * v11) + i3_35) : Int32).toNatClampNeg
              refine mv_aload_n d_TrustDeskModel_isBarred_89 rfl rfl ?_
              obtain ⟨a71, q70, t_a71⟩ := tm_atR I_35 h_q0_35 (k := 12) rfl
              refine tr_getK q70 d_TrustDeskModel_isBarred_90 f_TrustDeskModel_41_13 ?_
              refine mv_iload d_TrustDeskModel_isBarred_93 rfl ?_
              have b72 : (20 * v11 : Int32).toInt = (20 * v11.toInt) := mz_mul2 (by decide) rfl (by omega) (by omega)
              have b73 : ((20 * v11) + i3_35 : Int32).toInt = ((20 * v11.toInt) + i3_35.toInt) := mz_add2 b72 rfl (by omega) (by omega)
              refine tr_ialdR (o := o0) (k := 12) I_35 q70 t_a71 (by decide) d_TrustDeskModel_isBarred_95 (vp_in_iff.mpr (by omega)) (fun v74 e75 => ?_)
              have := kKR_35.a (k := 12) rfl (((20 * v11) + i3_35) : Int32).toNatClampNeg
              obtain ⟨_, b82, -⟩ := I_35.1 _ _ h_q0_35
              refine mv_callV (kc' := 0) (ks' := 0) (As := [.int v11, .int v68, .int v74]) (st9 := [.int v74, .int v68, .int v11, .ref o0]) d_TrustDeskModel_isBarred_96 lV_TrustDeskModel_447 b82 rfl (tc_TrustDeskModel_works_x (d := d) (x9 := x9) (o0 := o0) (x1 := v11) (x2 := v68) (x3 := v74) h_q0_35 (by omega) kKR_35 (by have := (rC.w3 kKC_35 kKR_35 (t := v11) (k := i3_35) (r := ((20 * v11) + i3_35)) (by omega) (by omega) (by have := mz_nat9 (i := v11) (by omega); have := mz_nat9 (i := i3_35) (by omega); have := mz_nat9 (i := ((20 * v11) + i3_35)) (by omega); omega) (by rw [← e47]; omega) e69 e75).1; have := kKR_35.2 11 _ _ rfl ((20 * v11) + i3_35).toNatClampNeg; have := kKR_35.2 12 _ _ rfl ((20 * v11) + i3_35).toNatClampNeg; omega) (rC.w3 kKC_35 kKR_35 (t := v11) (k := i3_35) (r := ((20 * v11) + i3_35)) (by omega) (by omega) (by have := mz_nat9 (i := v11) (by omega); have := mz_nat9 (i := i3_35) (by omega); have := mz_nat9 (i := ((20 * v11) + i3_35)) (by omega); omega) (by rw [← e47]; omega) e69 e75).2 I_35.start) rfl (Nat.le_of_ble_eq_true rfl) (Nat.le_of_ble_eq_true rfl) (Nat.le_of_ble_eq_true rfl) (hst := rfl) (fun b76r M77 n78 b76 => ?_)
              obtain ⟨T79, J80, v83, rfl, R84⟩ := b76
              have I81 := I_35.call J80 (tm_sub (by decide)) (Or.inl rfl)
              have t85 := J80.up h_q0_35
              have K86 : rC M77 o0 44 := kKC_35.same (sA_c I_35 J80 (I_35.up h_o0) (by decide +kernel)) (sF_c I_35 J80 (I_35.up h_o0) (by decide +kernel))
              have q87 := J80.keep h_q0_35 (by decide) q37
              have t88 := J80.up t_a38
              have q89 := J80.keep h_q0_35 (by decide) q42
              have t90 := J80.up t_a43
              have q91 := J80.keep h_q0_35 (by decide) q51
              have t92 := J80.up t_a52
              have q93 := J80.keep h_q0_35 (by decide) q57
              have t94 := J80.up t_a58
              have q95 := J80.keep h_q0_35 (by decide) q64
              have t96 := J80.up t_a65
              have q97 := J80.keep h_q0_35 (by decide) q70
              have t98 := J80.up t_a71
              refine mv_iconst (v := 1) d_TrustDeskModel_isBarred_99 (by decide) ?_
              have := mz_hi v83
              refine mv_icmp_neZ (tgt := 105) (a := v83.toInt) (b := 1) d_TrustDeskModel_isBarred_100 (by decide) rfl (by decide) (fun b99 => ?_) (fun b99 => ?_)
              · refine mv_iinc (v := (i3_35 + 1)) (lv' := [(3, .int (i3_35 + 1)), (4, .int ((20 * v11) + i3_35)), (2, .int v11), (0, .ref o0), (1, .int x1)]) d_TrustDeskModel_isBarred_105 rfl rfl (by decide) rfl ?_
                refine mv_goto (tgt := 29) d_TrustDeskModel_isBarred_108 (by decide) ?_
                have b100 : (i3_35 + 1 : Int32).toInt = (i3_35.toInt + 1) := mz_add2 rfl (by decide) (by omega) (by omega)
                refine mv_locals (lv' := [(3, .int (i3_35 + 1)), (2, .int v11), (0, .ref o0), (1, .int x1)]) (by intro q hq; simp only [List.mem_cons, List.not_mem_nil, or_false] at hq; rcases hq with rfl | rfl | rfl | rfl <;> rfl) ?_
                have b101 : (i3_35 + 1).toInt = i3_35.toInt + 1 := mz_addn 1 1 (by decide) (by have := mz_lo i3_35; omega) (by have := mz_hi i3_35; omega)
                exact (ih35 (i3_35 + 1) T79 M77 n78 I81 t85 (by first | omega | decide | exact fun h9 => absurd (by decide) h9) R84 K86 (by omega))
              · refine mv_iconst (v := 1) d_TrustDeskModel_isBarred_103 (by decide) ?_
                exact mv_iret d_TrustDeskModel_isBarred_104 rfl (by decide) ⟨_, I81, _, rfl, by decide, by decide, R84⟩
  have : (0 : Int32).toInt = 0 := by decide
  exact mv_less (Nat.zero_le _) (Nat.zero_le _) (L29_35 4294967296 0 T25 M23 n24 I27 t30 (by first | omega | decide | exact fun h9 => absurd (by decide) h9) R29 K31 (by show (2147483647 - (0 : Int) : Int) < _; decide))
abbrev kY_TrustDeskModel_closes : mj_Y := (⟨"TrustDeskModel", "closes", "(II)V"⟩, prog_14_method_66_code, 8, (Option.none : Option Jvm.ClassFile.FieldType))
theorem d_TrustDeskModel_closes_0 : decode kY_TrustDeskModel_closes.2.1 0 = .ok (.iload_n 2, 1) := by decide +kernel
theorem d_TrustDeskModel_closes_1 : decode kY_TrustDeskModel_closes.2.1 1 = .ok (.sipush 360, 3) := by decide +kernel
theorem d_TrustDeskModel_closes_4 : decode kY_TrustDeskModel_closes.2.1 4 = .ok (.idiv, 1) := by decide +kernel
theorem d_TrustDeskModel_closes_5 : decode kY_TrustDeskModel_closes.2.1 5 = .ok (.istore_n 3, 1) := by decide +kernel
theorem d_TrustDeskModel_closes_6 : decode kY_TrustDeskModel_closes.2.1 6 = .ok (.aload_n 0, 1) := by decide +kernel
theorem d_TrustDeskModel_closes_7 : decode kY_TrustDeskModel_closes.2.1 7 = .ok (.iload_n 1, 1) := by decide +kernel
theorem d_TrustDeskModel_closes_8 : decode kY_TrustDeskModel_closes.2.1 8 = .ok (.aload_n 0, 1) := by decide +kernel
theorem d_TrustDeskModel_closes_9 : decode kY_TrustDeskModel_closes.2.1 9 = .ok (.getfield 72, 3) := by decide +kernel
theorem d_TrustDeskModel_closes_12 : decode kY_TrustDeskModel_closes.2.1 12 = .ok (.iload_n 1, 1) := by decide +kernel
theorem d_TrustDeskModel_closes_13 : decode kY_TrustDeskModel_closes.2.1 13 = .ok (.laload, 1) := by decide +kernel
theorem d_TrustDeskModel_closes_14 : decode kY_TrustDeskModel_closes.2.1 14 = .ok (.aload_n 0, 1) := by decide +kernel
theorem d_TrustDeskModel_closes_15 : decode kY_TrustDeskModel_closes.2.1 15 = .ok (.iload_n 2, 1) := by decide +kernel
theorem d_TrustDeskModel_closes_16 : decode kY_TrustDeskModel_closes.2.1 16 = .ok (.iconst 4, 1) := by decide +kernel
theorem d_TrustDeskModel_closes_17 : decode kY_TrustDeskModel_closes.2.1 17 = .ok (.invokevirtual 396, 3) := by decide +kernel
theorem d_TrustDeskModel_closes_20 : decode kY_TrustDeskModel_closes.2.1 20 = .ok (.i2l, 1) := by decide +kernel
theorem d_TrustDeskModel_closes_21 : decode kY_TrustDeskModel_closes.2.1 21 = .ok (.lmul, 1) := by decide +kernel
theorem d_TrustDeskModel_closes_22 : decode kY_TrustDeskModel_closes.2.1 22 = .ok (.ldc2_w 477, 3) := by decide +kernel
theorem k_TrustDeskModel_477 : Cond.constantLong "TrustDeskModel" 477 100 ∈ mj_T := (mj_in1 (List.mem_of_getElem? (i := 1886) (by decide +kernel)) rfl)
theorem d_TrustDeskModel_closes_25 : decode kY_TrustDeskModel_closes.2.1 25 = .ok (.ldiv, 1) := by decide +kernel
theorem d_TrustDeskModel_closes_26 : decode kY_TrustDeskModel_closes.2.1 26 = .ok (.invokevirtual 479, 3) := by decide +kernel
theorem lV_TrustDeskModel_479 : mj_lV "TrustDeskModel" 479 kY_TrustDeskModel_gets 2 := ⟨⟨(mj_in1 (List.mem_of_getElem? (i := 1887) (by decide +kernel)) rfl), (mj_in1 (List.mem_of_getElem? (i := 10) (by decide +kernel)) rfl), (mj_in1 (List.mem_of_getElem? (i := 1890) (by decide +kernel)) rfl), by decide, rfl, by decide⟩, (mj_in1 (List.mem_of_getElem? (i := 1889) (by decide +kernel)) rfl), (mj_in (List.mem_append_left _ (List.mem_of_getElem? (i := 119) (by decide +kernel))) rfl)⟩
theorem d_TrustDeskModel_closes_29 : decode kY_TrustDeskModel_closes.2.1 29 = .ok (.aload_n 0, 1) := by decide +kernel
theorem d_TrustDeskModel_closes_30 : decode kY_TrustDeskModel_closes.2.1 30 = .ok (.iload_n 1, 1) := by decide +kernel
theorem d_TrustDeskModel_closes_31 : decode kY_TrustDeskModel_closes.2.1 31 = .ok (.aload_n 0, 1) := by decide +kernel
theorem d_TrustDeskModel_closes_32 : decode kY_TrustDeskModel_closes.2.1 32 = .ok (.iload_n 1, 1) := by decide +kernel
theorem d_TrustDeskModel_closes_33 : decode kY_TrustDeskModel_closes.2.1 33 = .ok (.iload_n 3, 1) := by decide +kernel
theorem d_TrustDeskModel_closes_34 : decode kY_TrustDeskModel_closes.2.1 34 = .ok (.aload_n 0, 1) := by decide +kernel
theorem d_TrustDeskModel_closes_35 : decode kY_TrustDeskModel_closes.2.1 35 = .ok (.getfield 164, 3) := by decide +kernel
theorem d_TrustDeskModel_closes_38 : decode kY_TrustDeskModel_closes.2.1 38 = .ok (.invokevirtual 438, 3) := by decide +kernel
theorem d_TrustDeskModel_closes_41 : decode kY_TrustDeskModel_closes.2.1 41 = .ok (.i2l, 1) := by decide +kernel
theorem d_TrustDeskModel_closes_42 : decode kY_TrustDeskModel_closes.2.1 42 = .ok (.invokevirtual 479, 3) := by decide +kernel
theorem d_TrustDeskModel_closes_45 : decode kY_TrustDeskModel_closes.2.1 45 = .ok (.aload_n 0, 1) := by decide +kernel
theorem d_TrustDeskModel_closes_46 : decode kY_TrustDeskModel_closes.2.1 46 = .ok (.iload_n 2, 1) := by decide +kernel
theorem d_TrustDeskModel_closes_47 : decode kY_TrustDeskModel_closes.2.1 47 = .ok (.iconst 0, 1) := by decide +kernel
theorem d_TrustDeskModel_closes_48 : decode kY_TrustDeskModel_closes.2.1 48 = .ok (.invokevirtual 396, 3) := by decide +kernel
theorem d_TrustDeskModel_closes_51 : decode kY_TrustDeskModel_closes.2.1 51 = .ok (.istore 4, 2) := by decide +kernel
theorem d_TrustDeskModel_closes_53 : decode kY_TrustDeskModel_closes.2.1 53 = .ok (.iconst 0, 1) := by decide +kernel
theorem d_TrustDeskModel_closes_54 : decode kY_TrustDeskModel_closes.2.1 54 = .ok (.istore 5, 2) := by decide +kernel
theorem d_TrustDeskModel_closes_56 : decode kY_TrustDeskModel_closes.2.1 56 = .ok (.iload 5, 2) := by decide +kernel
theorem d_TrustDeskModel_closes_58 : decode kY_TrustDeskModel_closes.2.1 58 = .ok (.aload_n 0, 1) := by decide +kernel
theorem d_TrustDeskModel_closes_59 : decode kY_TrustDeskModel_closes.2.1 59 = .ok (.getfield 98, 3) := by decide +kernel
theorem d_TrustDeskModel_closes_62 : decode kY_TrustDeskModel_closes.2.1 62 = .ok (.iload_n 1, 1) := by decide +kernel
theorem d_TrustDeskModel_closes_63 : decode kY_TrustDeskModel_closes.2.1 63 = .ok (.iaload, 1) := by decide +kernel
theorem d_TrustDeskModel_closes_64 : decode kY_TrustDeskModel_closes.2.1 64 = .ok (.if_icmp .ge 163, 3) := by decide +kernel
theorem d_TrustDeskModel_closes_227 : decode kY_TrustDeskModel_closes.2.1 227 = .ok (.return_, 1) := by decide +kernel
theorem d_TrustDeskModel_closes_67 : decode kY_TrustDeskModel_closes.2.1 67 = .ok (.bipush 80, 2) := by decide +kernel
theorem d_TrustDeskModel_closes_69 : decode kY_TrustDeskModel_closes.2.1 69 = .ok (.iload_n 1, 1) := by decide +kernel
theorem d_TrustDeskModel_closes_70 : decode kY_TrustDeskModel_closes.2.1 70 = .ok (.imul, 1) := by decide +kernel
theorem d_TrustDeskModel_closes_71 : decode kY_TrustDeskModel_closes.2.1 71 = .ok (.iload 5, 2) := by decide +kernel
theorem d_TrustDeskModel_closes_73 : decode kY_TrustDeskModel_closes.2.1 73 = .ok (.iadd, 1) := by decide +kernel
theorem d_TrustDeskModel_closes_74 : decode kY_TrustDeskModel_closes.2.1 74 = .ok (.istore 6, 2) := by decide +kernel
theorem d_TrustDeskModel_closes_76 : decode kY_TrustDeskModel_closes.2.1 76 = .ok (.aload_n 0, 1) := by decide +kernel
theorem d_TrustDeskModel_closes_77 : decode kY_TrustDeskModel_closes.2.1 77 = .ok (.getfield 107, 3) := by decide +kernel
theorem d_TrustDeskModel_closes_80 : decode kY_TrustDeskModel_closes.2.1 80 = .ok (.iload 6, 2) := by decide +kernel
theorem d_TrustDeskModel_closes_82 : decode kY_TrustDeskModel_closes.2.1 82 = .ok (.iaload, 1) := by decide +kernel
theorem d_TrustDeskModel_closes_83 : decode kY_TrustDeskModel_closes.2.1 83 = .ok (.ifCond .eq 6, 3) := by decide +kernel
theorem d_TrustDeskModel_closes_89 : decode kY_TrustDeskModel_closes.2.1 89 = .ok (.aload_n 0, 1) := by decide +kernel
theorem d_TrustDeskModel_closes_90 : decode kY_TrustDeskModel_closes.2.1 90 = .ok (.iload_n 1, 1) := by decide +kernel
theorem d_TrustDeskModel_closes_91 : decode kY_TrustDeskModel_closes.2.1 91 = .ok (.iload_n 3, 1) := by decide +kernel
theorem d_TrustDeskModel_closes_92 : decode kY_TrustDeskModel_closes.2.1 92 = .ok (.aload_n 0, 1) := by decide +kernel
theorem d_TrustDeskModel_closes_93 : decode kY_TrustDeskModel_closes.2.1 93 = .ok (.getfield 164, 3) := by decide +kernel
theorem d_TrustDeskModel_closes_96 : decode kY_TrustDeskModel_closes.2.1 96 = .ok (.invokevirtual 459, 3) := by decide +kernel
theorem d_TrustDeskModel_closes_99 : decode kY_TrustDeskModel_closes.2.1 99 = .ok (.aload_n 0, 1) := by decide +kernel
theorem d_TrustDeskModel_closes_100 : decode kY_TrustDeskModel_closes.2.1 100 = .ok (.iload_n 1, 1) := by decide +kernel
theorem d_TrustDeskModel_closes_101 : decode kY_TrustDeskModel_closes.2.1 101 = .ok (.iload 5, 2) := by decide +kernel
theorem d_TrustDeskModel_closes_103 : decode kY_TrustDeskModel_closes.2.1 103 = .ok (.invokevirtual 463, 3) := by decide +kernel
theorem d_TrustDeskModel_closes_106 : decode kY_TrustDeskModel_closes.2.1 106 = .ok (.istore 7, 2) := by decide +kernel
theorem d_TrustDeskModel_closes_108 : decode kY_TrustDeskModel_closes.2.1 108 = .ok (.iload 7, 2) := by decide +kernel
theorem d_TrustDeskModel_closes_110 : decode kY_TrustDeskModel_closes.2.1 110 = .ok (.bipush (-2), 2) := by decide +kernel
theorem d_TrustDeskModel_closes_112 : decode kY_TrustDeskModel_closes.2.1 112 = .ok (.if_icmp .ne 48, 3) := by decide +kernel
theorem d_TrustDeskModel_closes_160 : decode kY_TrustDeskModel_closes.2.1 160 = .ok (.aload_n 0, 1) := by decide +kernel
theorem d_TrustDeskModel_closes_161 : decode kY_TrustDeskModel_closes.2.1 161 = .ok (.getfield 110, 3) := by decide +kernel
theorem d_TrustDeskModel_closes_164 : decode kY_TrustDeskModel_closes.2.1 164 = .ok (.iload 6, 2) := by decide +kernel
theorem d_TrustDeskModel_closes_166 : decode kY_TrustDeskModel_closes.2.1 166 = .ok (.iconst 0, 1) := by decide +kernel
theorem d_TrustDeskModel_closes_167 : decode kY_TrustDeskModel_closes.2.1 167 = .ok (.iastore, 1) := by decide +kernel
theorem d_TrustDeskModel_closes_168 : decode kY_TrustDeskModel_closes.2.1 168 = .ok (.aload_n 0, 1) := by decide +kernel
theorem d_TrustDeskModel_closes_169 : decode kY_TrustDeskModel_closes.2.1 169 = .ok (.iload_n 1, 1) := by decide +kernel
theorem d_TrustDeskModel_closes_170 : decode kY_TrustDeskModel_closes.2.1 170 = .ok (.iload 5, 2) := by decide +kernel
theorem d_TrustDeskModel_closes_172 : decode kY_TrustDeskModel_closes.2.1 172 = .ok (.iload_n 3, 1) := by decide +kernel
theorem d_TrustDeskModel_closes_173 : decode kY_TrustDeskModel_closes.2.1 173 = .ok (.aload_n 0, 1) := by decide +kernel
theorem d_TrustDeskModel_closes_174 : decode kY_TrustDeskModel_closes.2.1 174 = .ok (.getfield 72, 3) := by decide +kernel
theorem d_TrustDeskModel_closes_177 : decode kY_TrustDeskModel_closes.2.1 177 = .ok (.iload_n 1, 1) := by decide +kernel
theorem d_TrustDeskModel_closes_178 : decode kY_TrustDeskModel_closes.2.1 178 = .ok (.laload, 1) := by decide +kernel
theorem d_TrustDeskModel_closes_179 : decode kY_TrustDeskModel_closes.2.1 179 = .ok (.iload 7, 2) := by decide +kernel
theorem d_TrustDeskModel_closes_181 : decode kY_TrustDeskModel_closes.2.1 181 = .ok (.i2l, 1) := by decide +kernel
theorem d_TrustDeskModel_closes_182 : decode kY_TrustDeskModel_closes.2.1 182 = .ok (.lcmp, 1) := by decide +kernel
theorem d_TrustDeskModel_closes_183 : decode kY_TrustDeskModel_closes.2.1 183 = .ok (.ifCond .lt 8, 3) := by decide +kernel
theorem d_TrustDeskModel_closes_191 : decode kY_TrustDeskModel_closes.2.1 191 = .ok (.aload_n 0, 1) := by decide +kernel
theorem d_TrustDeskModel_closes_192 : decode kY_TrustDeskModel_closes.2.1 192 = .ok (.getfield 32, 3) := by decide +kernel
theorem d_TrustDeskModel_closes_195 : decode kY_TrustDeskModel_closes.2.1 195 = .ok (.aload_n 0, 1) := by decide +kernel
theorem d_TrustDeskModel_closes_196 : decode kY_TrustDeskModel_closes.2.1 196 = .ok (.getfield 104, 3) := by decide +kernel
theorem d_TrustDeskModel_closes_199 : decode kY_TrustDeskModel_closes.2.1 199 = .ok (.iload 6, 2) := by decide +kernel
theorem d_TrustDeskModel_closes_201 : decode kY_TrustDeskModel_closes.2.1 201 = .ok (.iaload, 1) := by decide +kernel
theorem d_TrustDeskModel_closes_202 : decode kY_TrustDeskModel_closes.2.1 202 = .ok (.iaload, 1) := by decide +kernel
theorem d_TrustDeskModel_closes_203 : decode kY_TrustDeskModel_closes.2.1 203 = .ok (.iconst 1, 1) := by decide +kernel
theorem d_TrustDeskModel_closes_204 : decode kY_TrustDeskModel_closes.2.1 204 = .ok (.if_icmp .ne 13, 3) := by decide +kernel
theorem d_TrustDeskModel_closes_217 : decode kY_TrustDeskModel_closes.2.1 217 = .ok (.iconst 0, 1) := by decide +kernel
theorem d_TrustDeskModel_closes_218 : decode kY_TrustDeskModel_closes.2.1 218 = .ok (.invokevirtual 483, 3) := by decide +kernel
theorem lV_TrustDeskModel_483 : mj_lV "TrustDeskModel" 483 kY_TrustDeskModel_pays 4 := ⟨⟨(mj_in1 (List.mem_of_getElem? (i := 1892) (by decide +kernel)) rfl), (mj_in1 (List.mem_of_getElem? (i := 10) (by decide +kernel)) rfl), (mj_in1 (List.mem_of_getElem? (i := 1895) (by decide +kernel)) rfl), by decide, rfl, by decide⟩, (mj_in1 (List.mem_of_getElem? (i := 1894) (by decide +kernel)) rfl), (mj_in (List.mem_append_left _ (List.mem_of_getElem? (i := 120) (by decide +kernel))) rfl)⟩
theorem d_TrustDeskModel_closes_221 : decode kY_TrustDeskModel_closes.2.1 221 = .ok (.iinc 5 1, 3) := by decide +kernel
theorem d_TrustDeskModel_closes_224 : decode kY_TrustDeskModel_closes.2.1 224 = .ok (.goto (-168), 3) := by decide +kernel
theorem d_TrustDeskModel_closes_207 : decode kY_TrustDeskModel_closes.2.1 207 = .ok (.aload_n 0, 1) := by decide +kernel
theorem d_TrustDeskModel_closes_208 : decode kY_TrustDeskModel_closes.2.1 208 = .ok (.getfield 72, 3) := by decide +kernel
theorem d_TrustDeskModel_closes_211 : decode kY_TrustDeskModel_closes.2.1 211 = .ok (.iload_n 1, 1) := by decide +kernel
theorem d_TrustDeskModel_closes_212 : decode kY_TrustDeskModel_closes.2.1 212 = .ok (.laload, 1) := by decide +kernel
theorem d_TrustDeskModel_closes_213 : decode kY_TrustDeskModel_closes.2.1 213 = .ok (.l2i, 1) := by decide +kernel
theorem d_TrustDeskModel_closes_214 : decode kY_TrustDeskModel_closes.2.1 214 = .ok (.goto 4, 3) := by decide +kernel
theorem d_TrustDeskModel_closes_186 : decode kY_TrustDeskModel_closes.2.1 186 = .ok (.iload 7, 2) := by decide +kernel
theorem d_TrustDeskModel_closes_188 : decode kY_TrustDeskModel_closes.2.1 188 = .ok (.goto 30, 3) := by decide +kernel
theorem d_TrustDeskModel_closes_115 : decode kY_TrustDeskModel_closes.2.1 115 = .ok (.aload_n 0, 1) := by decide +kernel
theorem d_TrustDeskModel_closes_116 : decode kY_TrustDeskModel_closes.2.1 116 = .ok (.getfield 110, 3) := by decide +kernel
theorem d_TrustDeskModel_closes_119 : decode kY_TrustDeskModel_closes.2.1 119 = .ok (.iload 6, 2) := by decide +kernel
theorem d_TrustDeskModel_closes_121 : decode kY_TrustDeskModel_closes.2.1 121 = .ok (.dup2, 1) := by decide +kernel
theorem d_TrustDeskModel_closes_122 : decode kY_TrustDeskModel_closes.2.1 122 = .ok (.iaload, 1) := by decide +kernel
theorem d_TrustDeskModel_closes_123 : decode kY_TrustDeskModel_closes.2.1 123 = .ok (.iconst 1, 1) := by decide +kernel
theorem d_TrustDeskModel_closes_124 : decode kY_TrustDeskModel_closes.2.1 124 = .ok (.iadd, 1) := by decide +kernel
theorem d_TrustDeskModel_closes_125 : decode kY_TrustDeskModel_closes.2.1 125 = .ok (.iastore, 1) := by decide +kernel
theorem d_TrustDeskModel_closes_126 : decode kY_TrustDeskModel_closes.2.1 126 = .ok (.aload_n 0, 1) := by decide +kernel
theorem d_TrustDeskModel_closes_127 : decode kY_TrustDeskModel_closes.2.1 127 = .ok (.getfield 110, 3) := by decide +kernel
theorem d_TrustDeskModel_closes_130 : decode kY_TrustDeskModel_closes.2.1 130 = .ok (.iload 6, 2) := by decide +kernel
theorem d_TrustDeskModel_closes_132 : decode kY_TrustDeskModel_closes.2.1 132 = .ok (.iaload, 1) := by decide +kernel
theorem d_TrustDeskModel_closes_133 : decode kY_TrustDeskModel_closes.2.1 133 = .ok (.iload 4, 2) := by decide +kernel
theorem d_TrustDeskModel_closes_135 : decode kY_TrustDeskModel_closes.2.1 135 = .ok (.if_icmp .ge 6, 3) := by decide +kernel
theorem d_TrustDeskModel_closes_141 : decode kY_TrustDeskModel_closes.2.1 141 = .ok (.aload_n 0, 1) := by decide +kernel
theorem d_TrustDeskModel_closes_142 : decode kY_TrustDeskModel_closes.2.1 142 = .ok (.getfield 107, 3) := by decide +kernel
theorem d_TrustDeskModel_closes_145 : decode kY_TrustDeskModel_closes.2.1 145 = .ok (.iload 6, 2) := by decide +kernel
theorem d_TrustDeskModel_closes_147 : decode kY_TrustDeskModel_closes.2.1 147 = .ok (.iconst 1, 1) := by decide +kernel
theorem d_TrustDeskModel_closes_148 : decode kY_TrustDeskModel_closes.2.1 148 = .ok (.iastore, 1) := by decide +kernel
theorem d_TrustDeskModel_closes_149 : decode kY_TrustDeskModel_closes.2.1 149 = .ok (.aload_n 0, 1) := by decide +kernel
theorem d_TrustDeskModel_closes_150 : decode kY_TrustDeskModel_closes.2.1 150 = .ok (.getfield 113, 3) := by decide +kernel
theorem d_TrustDeskModel_closes_153 : decode kY_TrustDeskModel_closes.2.1 153 = .ok (.iload 6, 2) := by decide +kernel
theorem d_TrustDeskModel_closes_155 : decode kY_TrustDeskModel_closes.2.1 155 = .ok (.iload_n 3, 1) := by decide +kernel
theorem d_TrustDeskModel_closes_156 : decode kY_TrustDeskModel_closes.2.1 156 = .ok (.iastore, 1) := by decide +kernel
theorem d_TrustDeskModel_closes_157 : decode kY_TrustDeskModel_closes.2.1 157 = .ok (.goto 64, 3) := by decide +kernel
theorem d_TrustDeskModel_closes_138 : decode kY_TrustDeskModel_closes.2.1 138 = .ok (.goto 83, 3) := by decide +kernel
theorem d_TrustDeskModel_closes_86 : decode kY_TrustDeskModel_closes.2.1 86 = .ok (.goto 135, 3) := by decide +kernel
def w_TrustDeskModel_closes_x : List Nat := [1331, 1351, 20029, 20030, 20035, 20042, 20046, 20047, 20048, 20052]
set_option maxHeartbeats 100000000 in theorem tc_TrustDeskModel_closes_x {g : mj_G} {l : Launch} {d : Nat} {T0 : tm_H} {M0 : mj_M} {n0 x9 : Nat} {o0 : Nat} {x1 : Int32} {x2 : Int32} (h_o0 : T0 o0 = some (0, 13, 0)) (hn0 : 0 ≤ x1.toInt ∧ x1.toInt ≤ 11) (hn1 : 0 ≤ x2.toInt ∧ x2.toInt ≤ 36000) (yR : rI M0 o0) (yC : rC M0 o0 44) (I0 : tm_I tm_FT (tm_in w_TrustDeskModel_closes_x) x9 T0 M0 n0 T0 M0 n0) : mj_Met g l kY_TrustDeskModel_closes (d + 4) [.ref o0, .int x1, .int x2] M0 n0 0 0 (tm_Q tm_FT (tm_in w_TrustDeskModel_closes_x) x9 T0 M0 n0 (fun r _ M => r = none ∧ rI M o0)) := by
  refine mj_enter (by decide) (Nat.le_of_ble_eq_true rfl) ?_
  have K1 : rC M0 o0 44 := yC
  refine mv_iload_n d_TrustDeskModel_closes_0 rfl rfl ?_
  refine mv_sipush (v := 360) d_TrustDeskModel_closes_1 (by decide) ?_
  have : (x2 / 360 : Int32).toInt = x2.toInt / 360 := mz_div (by decide) (by decide) (by omega)
  refine mv_idiv d_TrustDeskModel_closes_4 (by decide) ?_
  refine mv_istore_n (lv' := [(3, .int (x2 / 360)), (0, .ref o0), (1, .int x1), (2, .int x2)]) d_TrustDeskModel_closes_5 rfl (by decide) rfl ?_
  refine mv_aload_n d_TrustDeskModel_closes_6 rfl rfl ?_
  refine mv_iload_n d_TrustDeskModel_closes_7 rfl rfl ?_
  refine mv_aload_n d_TrustDeskModel_closes_8 rfl rfl ?_
  obtain ⟨a3, q2, t_a3⟩ := tm_atR I0 h_o0 (k := 35) rfl
  refine tr_getK q2 d_TrustDeskModel_closes_9 f_TrustDeskModel_72_13 ?_
  refine mv_iload_n d_TrustDeskModel_closes_12 rfl rfl ?_
  refine tr_laldR (o := o0) (k := 35) I0 q2 t_a3 (by decide) d_TrustDeskModel_closes_13 (vp_in_iff.mpr (by omega)) (fun v4 e5 => ?_)
  have := yR.a (k := 35) rfl (x1 : Int32).toNatClampNeg
  refine mv_aload_n d_TrustDeskModel_closes_14 rfl rfl ?_
  refine mv_iload_n d_TrustDeskModel_closes_15 rfl rfl ?_
  refine mv_iconst (v := 4) d_TrustDeskModel_closes_16 (by decide) ?_
  obtain ⟨_, b12, -⟩ := I0.1 _ _ h_o0
  have : (4 : Int32).toInt = 4 := by decide
  refine mv_callV (kc' := 0) (ks' := 0) (As := [.int x2, .int 4]) (st9 := [.int 4, .int x2, .ref o0, .long v4, .int x1, .ref o0]) d_TrustDeskModel_closes_17 lV_TrustDeskModel_396 b12 rfl (tc_TrustDeskModel_toldOn_x (d := (d + 2)) (x9 := x9) (o0 := o0) (x1 := x2) (x2 := 4) h_o0 yR K1.2.2.1 I0.start) rfl (Nat.le_of_ble_eq_true rfl) (Nat.le_of_ble_eq_true rfl) (Nat.le_of_ble_eq_true rfl) (hst := rfl) (fun b6r M7 n8 b6 => ?_)
  obtain ⟨T9, J10, v13, rfl, R14, f15⟩ := b6
  have I11 := I0.call J10 (tm_sub (by decide)) (Or.inl rfl)
  have t16 := J10.up h_o0
  have K17 : rC M7 o0 44 := K1.same (sA_c I0 J10 (I0.up h_o0) (by decide +kernel)) (sF_c I0 J10 (I0.up h_o0) (by decide +kernel))
  have q18 := J10.keep h_o0 (by decide) q2
  have t19 := J10.up t_a3
  refine mv_i2l (v := v13.toInt64) d_TrustDeskModel_closes_20 rfl ?_
  refine mv_lmul d_TrustDeskModel_closes_21 ?_
  refine mv_ldc2 d_TrustDeskModel_closes_22 k_TrustDeskModel_477 ?_
  have : (v13.toInt64 : Int64).toInt = v13.toInt := (mz_wide _)
  have := mz_mulLb (x := v4) (y := v13.toInt64) (A := 1000000000000000) (B := 720) (by omega) (by omega) (by omega) (by omega) (by omega)
  have : ((v4 * v13.toInt64) / 100 : Int64).toInt = (v4 * v13.toInt64).toInt / 100 := mz_divL (by omega) (by decide)
  refine mv_ldiv d_TrustDeskModel_closes_25 (by decide) ?_
  obtain ⟨_, b27, -⟩ := I11.1 _ _ t16
  refine mv_callV (kc' := 0) (ks' := 0) (As := [.int x1, .long ((v4 * v13.toInt64) / 100)]) (st9 := [.long ((v4 * v13.toInt64) / 100), .int x1, .ref o0]) d_TrustDeskModel_closes_26 lV_TrustDeskModel_479 b27 rfl (tc_TrustDeskModel_gets_x (d := (d + 3)) (x9 := x9) (o0 := o0) (x1 := x1) (x2 := ((v4 * v13.toInt64) / 100)) t16 (by omega) R14 (by omega) I11.start) rfl (Nat.le_of_ble_eq_true rfl) (Nat.le_of_ble_eq_true rfl) (Nat.le_of_ble_eq_true rfl) (hst := rfl) (fun b21r M22 n23 b21 => ?_)
  obtain ⟨T24, J25, rfl, R28⟩ := b21
  have I26 := I11.call J25 (tm_sub (by decide)) (Or.inl rfl)
  have t29 := J25.up t16
  have K30 : rC M22 o0 44 := K17.same (sA_c I11 J25 (I11.up h_o0) (by decide +kernel)) (sF_c I11 J25 (I11.up h_o0) (by decide +kernel))
  have q31 := J25.keep t16 (by decide) q18
  have t32 := J25.up t19
  refine mv_aload_n d_TrustDeskModel_closes_29 rfl rfl ?_
  refine mv_iload_n d_TrustDeskModel_closes_30 rfl rfl ?_
  refine mv_aload_n d_TrustDeskModel_closes_31 rfl rfl ?_
  refine mv_iload_n d_TrustDeskModel_closes_32 rfl rfl ?_
  refine mv_iload_n d_TrustDeskModel_closes_33 rfl rfl ?_
  refine mv_aload_n d_TrustDeskModel_closes_34 rfl rfl ?_
  obtain ⟨v34, q33⟩ := tm_atI I26 t29 (k := 1) rfl
  refine tr_getK q33 d_TrustDeskModel_closes_35 f_TrustDeskModel_164_13 ?_
  have := R28.f (k := 1) q33 rfl
  obtain ⟨_, b41, -⟩ := I26.1 _ _ t29
  refine mv_callV (kc' := 0) (ks' := 0) (As := [.int x1, .int (x2 / 360), .int v34]) (st9 := [.int v34, .int (x2 / 360), .int x1, .ref o0, .int x1, .ref o0]) d_TrustDeskModel_closes_38 lV_TrustDeskModel_438 b41 rfl (tc_TrustDeskModel_incomeOf_x (d := (d + 2)) (x9 := x9) (o0 := o0) (x1 := x1) (x2 := (x2 / 360)) (x3 := v34) t29 (by omega) R28 I26.start) rfl (Nat.le_of_ble_eq_true rfl) (Nat.le_of_ble_eq_true rfl) (Nat.le_of_ble_eq_true rfl) (hst := rfl) (fun b35r M36 n37 b35 => ?_)
  obtain ⟨T38, J39, v42, rfl, R43, f44⟩ := b35
  have I40 := I26.call J39 (tm_sub (by decide)) (Or.inl rfl)
  have t45 := J39.up t29
  have K46 : rC M36 o0 44 := K30.same (sA_c I26 J39 (I26.up h_o0) (by decide +kernel)) (sF_c I26 J39 (I26.up h_o0) (by decide +kernel))
  have q47 := J39.keep t29 (by decide) q31
  have t48 := J39.up t32
  have q49 := J39.keep t29 (by decide) q33
  refine mv_i2l (v := v42.toInt64) d_TrustDeskModel_closes_41 rfl ?_
  obtain ⟨_, b56, -⟩ := I40.1 _ _ t45
  have : (v42.toInt64 : Int64).toInt = v42.toInt := (mz_wide _)
  refine mv_callV (kc' := 0) (ks' := 0) (As := [.int x1, .long v42.toInt64]) (st9 := [.long v42.toInt64, .int x1, .ref o0]) d_TrustDeskModel_closes_42 lV_TrustDeskModel_479 b56 rfl (tc_TrustDeskModel_gets_x (d := (d + 3)) (x9 := x9) (o0 := o0) (x1 := x1) (x2 := v42.toInt64) t45 (by omega) R43 (by omega) I40.start) rfl (Nat.le_of_ble_eq_true rfl) (Nat.le_of_ble_eq_true rfl) (Nat.le_of_ble_eq_true rfl) (hst := rfl) (fun b50r M51 n52 b50 => ?_)
  obtain ⟨T53, J54, rfl, R57⟩ := b50
  have I55 := I40.call J54 (tm_sub (by decide)) (Or.inl rfl)
  have t58 := J54.up t45
  have K59 : rC M51 o0 44 := K46.same (sA_c I40 J54 (I40.up h_o0) (by decide +kernel)) (sF_c I40 J54 (I40.up h_o0) (by decide +kernel))
  have q60 := J54.keep t45 (by decide) q47
  have t61 := J54.up t48
  have q62 := J54.keep t45 (by decide) q49
  refine mv_aload_n d_TrustDeskModel_closes_45 rfl rfl ?_
  refine mv_iload_n d_TrustDeskModel_closes_46 rfl rfl ?_
  refine mv_iconst (v := 0) d_TrustDeskModel_closes_47 (by decide) ?_
  obtain ⟨_, b69, -⟩ := I55.1 _ _ t58
  have : (0 : Int32).toInt = 0 := by decide
  refine mv_callV (kc' := 0) (ks' := 0) (As := [.int x2, .int 0]) (st9 := [.int 0, .int x2, .ref o0]) d_TrustDeskModel_closes_48 lV_TrustDeskModel_396 b69 rfl (tc_TrustDeskModel_toldOn_x (d := (d + 2)) (x9 := x9) (o0 := o0) (x1 := x2) (x2 := 0) t58 R57 K59.2.2.1 I55.start) rfl (Nat.le_of_ble_eq_true rfl) (Nat.le_of_ble_eq_true rfl) (Nat.le_of_ble_eq_true rfl) (hst := rfl) (fun b63r M64 n65 b63 => ?_)
  obtain ⟨T66, J67, v70, rfl, R71, f72⟩ := b63
  have I68 := I55.call J67 (tm_sub (by decide)) (Or.inl rfl)
  have t73 := J67.up t58
  have K74 : rC M64 o0 44 := K59.same (sA_c I55 J67 (I55.up h_o0) (by decide +kernel)) (sF_c I55 J67 (I55.up h_o0) (by decide +kernel))
  have q75 := J67.keep t58 (by decide) q60
  have t76 := J67.up t61
  have q77 := J67.keep t58 (by decide) q62
  refine mv_istore (lv' := [(4, .int v70), (3, .int (x2 / 360)), (0, .ref o0), (1, .int x1), (2, .int x2)]) d_TrustDeskModel_closes_51 (by decide) rfl ?_
  refine mv_iconst (v := 0) d_TrustDeskModel_closes_53 (by decide) ?_
  refine mv_istore (lv' := [(5, .int 0), (4, .int v70), (3, .int (x2 / 360)), (0, .ref o0), (1, .int x1), (2, .int x2)]) d_TrustDeskModel_closes_54 (by decide) rfl ?_
  have L56_78 : ∀ (k : Nat) (i5_78 : Int32) (T_78 : tm_H) (M_78 : mj_M) (n_78 : Nat), tm_I tm_FT (tm_in w_TrustDeskModel_closes_x) x9 T0 M0 n0 T_78 M_78 n_78 → T_78 o0 = some (0, 13, 0) → 0 ≤ i5_78.toInt → (rI M_78 o0) → (rC M_78 o0 44) → 2147483647 - i5_78.toInt < (k : Int) → mj_V g l kY_TrustDeskModel_closes (d + 4) 56 [(5, .int i5_78), (4, .int v70), (3, .int (x2 / 360)), (0, .ref o0), (1, .int x1), (2, .int x2)] [] M_78 n_78 0 0 (tm_Q tm_FT (tm_in w_TrustDeskModel_closes_x) x9 T0 M0 n0 (fun r _ M => r = none ∧ rI M o0)) := by
    intro k78
    induction k78 with
    | zero =>
      intro i5_78 T_78 M_78 n_78 I_78 h_q0_78 iv0_78 kKR_78 kKC_78 hk78
      have := mz_hi i5_78
      have := kKR_78.1 15 _ _ rfl
      have := kKR_78.1 16 _ _ rfl
      have := kKR_78.1 19 _ _ rfl
      omega
    | succ k78 ih78 =>
      intro i5_78 T_78 M_78 n_78 I_78 h_q0_78 iv0_78 kKR_78 kKC_78 hk78
      refine mv_iload d_TrustDeskModel_closes_56 rfl ?_
      refine mv_aload_n d_TrustDeskModel_closes_58 rfl rfl ?_
      obtain ⟨a80, q79, t_a80⟩ := tm_atR I_78 h_q0_78 (k := 43) rfl
      refine tr_getK q79 d_TrustDeskModel_closes_59 f_TrustDeskModel_98_13 ?_
      refine mv_iload_n d_TrustDeskModel_closes_62 rfl rfl ?_
      refine tr_ialdR (o := o0) (k := 43) I_78 q79 t_a80 (by decide) d_TrustDeskModel_closes_63 (vp_in_iff.mpr (by omega)) (fun v81 e82 => ?_)
      have := kKR_78.a (k := 43) rfl (x1 : Int32).toNatClampNeg
      have := mz_hi i5_78
      have := mz_hi v81
      refine mv_icmp_geZ (tgt := 227) (a := i5_78.toInt) (b := v81.toInt) d_TrustDeskModel_closes_64 (by decide) rfl rfl (fun b83 => ?_) (fun b83 => ?_)
      · exact mv_vret d_TrustDeskModel_closes_227 rfl ⟨_, I_78, rfl, kKR_78⟩
      · refine mv_bipush (v := 80) d_TrustDeskModel_closes_67 (by decide) ?_
        refine mv_iload_n d_TrustDeskModel_closes_69 rfl rfl ?_
        refine mv_imul d_TrustDeskModel_closes_70 ?_
        refine mv_iload d_TrustDeskModel_closes_71 rfl ?_
        refine mv_iadd d_TrustDeskModel_closes_73 ?_
        refine mv_istore (lv' := [(6, .int ((80 * x1) + i5_78)), (5, .int i5_78), (4, .int v70), (3, .int (x2 / 360)), (0, .ref o0), (1, .int x1), (2, .int x2)]) d_TrustDeskModel_closes_74 (by decide) rfl ?_
        refine mv_aload_n d_TrustDeskModel_closes_76 rfl rfl ?_
        obtain ⟨a85, q84, t_a85⟩ := tm_atR I_78 h_q0_78 (k := 46) rfl
        refine tr_getK q84 d_TrustDeskModel_closes_77 f_TrustDeskModel_107_13 ?_
        refine mv_iload d_TrustDeskModel_closes_80 rfl ?_
        have b86 : (80 * x1 : Int32).toInt = (80 * x1.toInt) := mz_mul2 (by decide) rfl (by omega) (by omega)
        have b87 : ((80 * x1) + i5_78 : Int32).toInt = ((80 * x1.toInt) + i5_78.toInt) := mz_add2 b86 rfl (by omega) (by omega)
        refine tr_ialdR (o := o0) (k := 46) I_78 q84 t_a85 (by decide) d_TrustDeskModel_closes_82 (vp_in_iff.mpr (by omega)) (fun v88 e89 => ?_)
        have := mz_hi v88
        refine mv_if_eqZ (tgt := 89) (a := v88.toInt) d_TrustDeskModel_closes_83 (by decide) rfl (fun b90 => ?_) (fun b90 => ?_)
        · refine mv_aload_n d_TrustDeskModel_closes_89 rfl rfl ?_
          refine mv_iload_n d_TrustDeskModel_closes_90 rfl rfl ?_
          refine mv_iload_n d_TrustDeskModel_closes_91 rfl rfl ?_
          refine mv_aload_n d_TrustDeskModel_closes_92 rfl rfl ?_
          obtain ⟨v92, q91⟩ := tm_atI I_78 h_q0_78 (k := 1) rfl
          refine tr_getK q91 d_TrustDeskModel_closes_93 f_TrustDeskModel_164_13 ?_
          have := kKR_78.f (k := 1) q91 rfl
          obtain ⟨_, b99, -⟩ := I_78.1 _ _ h_q0_78
          refine mv_callV (kc' := 0) (ks' := 0) (As := [.int x1, .int (x2 / 360), .int v92]) (st9 := [.int v92, .int (x2 / 360), .int x1, .ref o0]) d_TrustDeskModel_closes_96 lV_TrustDeskModel_459 b99 rfl (tc_TrustDeskModel_names_x (d := (d + 1)) (x9 := x9) (o0 := o0) (x1 := x1) (x2 := (x2 / 360)) (x3 := v92) h_q0_78 (by omega) kKR_78 I_78.start) rfl (Nat.le_of_ble_eq_true rfl) (Nat.le_of_ble_eq_true rfl) (Nat.le_of_ble_eq_true rfl) (hst := rfl) (fun b93r M94 n95 b93 => ?_)
          obtain ⟨T96, J97, rfl, R100⟩ := b93
          have I98 := I_78.call J97 (tm_sub (by decide)) (Or.inl rfl)
          have t101 := J97.up h_q0_78
          have z102 := (ra_call I_78 J97 (I_78.up h_o0) (k := 43) rfl rfl rfl x1.toNatClampNeg)
          have K103 : rC M94 o0 44 := kKC_78.same (sA_c I_78 J97 (I_78.up h_o0) (by decide +kernel)) (sF_c I_78 J97 (I_78.up h_o0) (by decide +kernel))
          have q104 := J97.keep h_q0_78 (by decide) q79
          have t105 := J97.up t_a80
          have q106 := J97.keep h_q0_78 (by decide) q84
          have t107 := J97.up t_a85
          have q108 := J97.keep h_q0_78 (by decide) q91
          refine mv_aload_n d_TrustDeskModel_closes_99 rfl rfl ?_
          refine mv_iload_n d_TrustDeskModel_closes_100 rfl rfl ?_
          refine mv_iload d_TrustDeskModel_closes_101 rfl ?_
          obtain ⟨_, b115, -⟩ := I98.1 _ _ t101
          refine mv_callV (kc' := 0) (ks' := 0) (As := [.int x1, .int i5_78]) (st9 := [.int i5_78, .int x1, .ref o0]) d_TrustDeskModel_closes_103 lV_TrustDeskModel_463 b115 rfl (tc_TrustDeskModel_asks_x (d := d) (x9 := x9) (o0 := o0) (x1 := x1) (x2 := i5_78) t101 (by omega) R100 K103 (by omega) I98.start) rfl (Nat.le_of_ble_eq_true rfl) (Nat.le_of_ble_eq_true rfl) (Nat.le_of_ble_eq_true rfl) (hst := rfl) (fun b109r M110 n111 b109 => ?_)
          obtain ⟨T112, J113, v116, rfl, R117, f118⟩ := b109
          have I114 := I98.call J113 (tm_sub (by decide)) (Or.inl rfl)
          have t119 := J113.up t101
          have z120 := (ra_call I98 J113 (I98.up h_o0) (k := 43) rfl rfl rfl x1.toNatClampNeg).trans z102
          have K121 : rC M110 o0 44 := K103.same (sA_c I98 J113 (I98.up h_o0) (by decide +kernel)) (sF_c I98 J113 (I98.up h_o0) (by decide +kernel))
          clear z102
          have q122 := J113.keep t101 (by decide) q104
          have t123 := J113.up t105
          have q124 := J113.keep t101 (by decide) q106
          have t125 := J113.up t107
          have q126 := J113.keep t101 (by decide) q108
          refine mv_istore (lv' := [(7, .int v116), (6, .int ((80 * x1) + i5_78)), (5, .int i5_78), (4, .int v70), (3, .int (x2 / 360)), (0, .ref o0), (1, .int x1), (2, .int x2)]) d_TrustDeskModel_closes_106 (by decide) rfl ?_
          refine mv_iload d_TrustDeskModel_closes_108 rfl ?_
          refine mv_bipush (v := (-2)) d_TrustDeskModel_closes_110 (by decide) ?_
          have := mz_hi v116
          refine mv_icmp_neZ (tgt := 160) (a := v116.toInt) (b := (-2)) d_TrustDeskModel_closes_112 (by decide) rfl (by decide) (fun b127 => ?_) (fun b127 => ?_)
          · refine mv_aload_n d_TrustDeskModel_closes_160 rfl rfl ?_
            obtain ⟨a129, q128, t_a129⟩ := tm_atR I114 t119 (k := 47) rfl
            refine tr_getK q128 d_TrustDeskModel_closes_161 f_TrustDeskModel_110_13 ?_
            refine mv_iload d_TrustDeskModel_closes_164 rfl ?_
            refine mv_iconst (v := 0) d_TrustDeskModel_closes_166 (by decide) ?_
            have b130 : (80 * x1 : Int32).toInt = (80 * x1.toInt) := mz_mul2 (by decide) rfl (by omega) (by omega)
            have b131 : ((80 * x1) + i5_78 : Int32).toInt = ((80 * x1.toInt) + i5_78.toInt) := mz_add2 b130 rfl (by omega) (by omega)
            refine tr_iastR (k := 47) I114 R117 (I114.up h_o0) q128 t_a129 (by decide) (by decide) (fun lo hi h => by cases h) (Or.inl (by decide)) d_TrustDeskModel_closes_167 (vp_in_iff.mpr (by omega)) (fun M132 I133 K134 R135 E136 A137 V138 => ?_)
            have z139 := (A137 43 (by decide) rfl x1.toNatClampNeg).trans z120
            have K140 : rC M132 o0 44 := K121.same (sA_a A137 (by decide +kernel)) (sF_a V138)
            clear z120
            refine mv_aload_n d_TrustDeskModel_closes_168 rfl rfl ?_
            refine mv_iload_n d_TrustDeskModel_closes_169 rfl rfl ?_
            refine mv_iload d_TrustDeskModel_closes_170 rfl ?_
            refine mv_iload_n d_TrustDeskModel_closes_172 rfl rfl ?_
            refine mv_aload_n d_TrustDeskModel_closes_173 rfl rfl ?_
            obtain ⟨a142, q141, t_a142⟩ := tm_atR I133 t119 (k := 35) rfl
            refine tr_getK q141 d_TrustDeskModel_closes_174 f_TrustDeskModel_72_13 ?_
            refine mv_iload_n d_TrustDeskModel_closes_177 rfl rfl ?_
            refine tr_laldR (o := o0) (k := 35) I133 q141 t_a142 (by decide) d_TrustDeskModel_closes_178 (vp_in_iff.mpr (by omega)) (fun v143 e144 => ?_)
            have := R135.a (k := 35) rfl (x1 : Int32).toNatClampNeg
            refine mv_iload d_TrustDeskModel_closes_179 rfl ?_
            refine mv_i2l (v := v116.toInt64) d_TrustDeskModel_closes_181 rfl ?_
            refine mv_lltZ (tgt := 191) (a := v143.toInt) (b := v116.toInt) d_TrustDeskModel_closes_182 d_TrustDeskModel_closes_183 (by decide) rfl (mz_wide _) (fun b145 => ?_) (fun b145 => ?_)
            · refine mv_aload_n d_TrustDeskModel_closes_191 rfl rfl ?_
              obtain ⟨a147, q146, t_a147⟩ := tm_atR I133 t119 (k := 9) rfl
              refine tr_getK q146 d_TrustDeskModel_closes_192 f_TrustDeskModel_32_13 ?_
              refine mv_aload_n d_TrustDeskModel_closes_195 rfl rfl ?_
              obtain ⟨a149, q148, t_a149⟩ := tm_atR I133 t119 (k := 45) rfl
              refine tr_getK q148 d_TrustDeskModel_closes_196 f_TrustDeskModel_104_13 ?_
              refine mv_iload d_TrustDeskModel_closes_199 rfl ?_
              have b150 : (80 * x1 : Int32).toInt = (80 * x1.toInt) := mz_mul2 (by decide) rfl (by omega) (by omega)
              have b151 : ((80 * x1) + i5_78 : Int32).toInt = ((80 * x1.toInt) + i5_78.toInt) := mz_add2 b150 rfl (by omega) (by omega)
              refine tr_ialdR (o := o0) (k := 45) I133 q148 t_a149 (by decide) d_TrustDeskModel_closes_201 (vp_in_iff.mpr (by omega)) (fun v152 e153 => ?_)
              have := R135.a (k := 45) rfl (((80 * x1) + i5_78) : Int32).toNatClampNeg
              refine tr_ialdR (o := o0) (k := 9) I133 q146 t_a147 (by decide) d_TrustDeskModel_closes_202 (vp_in_iff.mpr (by omega)) (fun v154 e155 => ?_)
              refine mv_iconst (v := 1) d_TrustDeskModel_closes_203 (by decide) ?_
              have := mz_hi v154
              refine mv_icmp_neZ (tgt := 217) (a := v154.toInt) (b := 1) d_TrustDeskModel_closes_204 (by decide) rfl (by decide) (fun b156 => ?_) (fun b156 => ?_)
              · refine mv_iconst (v := 0) d_TrustDeskModel_closes_217 (by decide) ?_
                obtain ⟨_, b163, -⟩ := I133.1 _ _ t119
                have : (0 : Int32).toInt = 0 := by decide
                refine mv_callV (kc' := 0) (ks' := 0) (As := [.int x1, .int i5_78, .int (x2 / 360), .int 0]) (st9 := [.int 0, .int (x2 / 360), .int i5_78, .int x1, .ref o0]) d_TrustDeskModel_closes_218 lV_TrustDeskModel_483 b163 rfl (tc_TrustDeskModel_pays_x (d := (d + 2)) (x9 := x9) (o0 := o0) (x1 := x1) (x2 := i5_78) (x3 := (x2 / 360)) (x4 := 0) t119 (by omega) R135 (by omega) I133.start) rfl (Nat.le_of_ble_eq_true rfl) (Nat.le_of_ble_eq_true rfl) (Nat.le_of_ble_eq_true rfl) (hst := rfl) (fun b157r M158 n159 b157 => ?_)
                obtain ⟨T160, J161, rfl, R164⟩ := b157
                have I162 := I133.call J161 (tm_sub (by decide)) (Or.inl rfl)
                have t165 := J161.up t119
                have z166 := (ra_call I133 J161 (I133.up h_o0) (k := 43) rfl rfl rfl x1.toNatClampNeg).trans z139
                have z167 := (ra_call I133 J161 (I133.up h_o0) (k := 45) rfl rfl rfl (((80 * x1) + i5_78).toNatClampNeg))
                have K168 : rC M158 o0 44 := K140.same (sA_c I133 J161 (I133.up h_o0) (by decide +kernel)) (sF_c I133 J161 (I133.up h_o0) (by decide +kernel))
                clear z139
                have q169 := J161.keep t119 (by decide) (K134 _ 13 43 _ q122)
                have t170 := J161.up t123
                have q171 := J161.keep t119 (by decide) (K134 _ 13 46 _ q124)
                have t172 := J161.up t125
                have q173 := J161.keep t119 (by decide) (K134 _ 13 1 _ q126)
                have q174 := J161.keep t119 (by decide) (K134 _ 13 47 _ q128)
                have t175 := J161.up t_a129
                have q176 := J161.keep t119 (by decide) q141
                have t177 := J161.up t_a142
                have q178 := J161.keep t119 (by decide) q146
                have t179 := J161.up t_a147
                have q180 := J161.keep t119 (by decide) q148
                have t181 := J161.up t_a149
                refine mv_iinc (v := (i5_78 + 1)) (lv' := [(5, .int (i5_78 + 1)), (7, .int v116), (6, .int ((80 * x1) + i5_78)), (4, .int v70), (3, .int (x2 / 360)), (0, .ref o0), (1, .int x1), (2, .int x2)]) d_TrustDeskModel_closes_221 rfl rfl (by decide) rfl ?_
                refine mv_goto (tgt := 56) d_TrustDeskModel_closes_224 (by decide) ?_
                have b182 : (i5_78 + 1 : Int32).toInt = (i5_78.toInt + 1) := mz_add2 rfl (by decide) (by omega) (by omega)
                refine mv_locals (lv' := [(5, .int (i5_78 + 1)), (4, .int v70), (3, .int (x2 / 360)), (0, .ref o0), (1, .int x1), (2, .int x2)]) (by intro q hq; simp only [List.mem_cons, List.not_mem_nil, or_false] at hq; rcases hq with rfl | rfl | rfl | rfl | rfl | rfl <;> rfl) ?_
                have b183 : (i5_78 + 1).toInt = i5_78.toInt + 1 := mz_addn 1 1 (by decide) (by have := mz_lo i5_78; omega) (by have := mz_hi i5_78; omega)
                exact (ih78 (i5_78 + 1) T160 M158 n159 I162 t165 (by first | omega | decide | exact fun h9 => absurd (by decide) h9) R164 K168 (by omega))
              · refine mv_aload_n d_TrustDeskModel_closes_207 rfl rfl ?_
                refine tr_getK (k := 35) q141 d_TrustDeskModel_closes_208 f_TrustDeskModel_72_13 ?_
                refine mv_iload_n d_TrustDeskModel_closes_211 rfl rfl ?_
                refine tr_laldR (o := o0) (k := 35) I133 q141 t_a142 (by decide) d_TrustDeskModel_closes_212 (vp_in_iff.mpr (by omega)) (fun v184 e185 => ?_)
                have := R135.a (k := 35) rfl (x1 : Int32).toNatClampNeg
                have : (v184.toInt32).toInt = v184.toInt := mz_l2i (by omega) (by omega)
                refine mv_l2i (v := v184.toInt32) d_TrustDeskModel_closes_213 rfl ?_
                refine mv_goto (tgt := 218) d_TrustDeskModel_closes_214 (by decide) ?_
                obtain ⟨_, b192, -⟩ := I133.1 _ _ t119
                refine mv_callV (kc' := 0) (ks' := 0) (As := [.int x1, .int i5_78, .int (x2 / 360), .int v184.toInt32]) (st9 := [.int v184.toInt32, .int (x2 / 360), .int i5_78, .int x1, .ref o0]) d_TrustDeskModel_closes_218 lV_TrustDeskModel_483 b192 rfl (tc_TrustDeskModel_pays_x (d := (d + 2)) (x9 := x9) (o0 := o0) (x1 := x1) (x2 := i5_78) (x3 := (x2 / 360)) (x4 := v184.toInt32) t119 (by omega) R135 (by omega) I133.start) rfl (Nat.le_of_ble_eq_true rfl) (Nat.le_of_ble_eq_true rfl) (Nat.le_of_ble_eq_true rfl) (hst := rfl) (fun b186r M187 n188 b186 => ?_)
                obtain ⟨T189, J190, rfl, R193⟩ := b186
                have I191 := I133.call J190 (tm_sub (by decide)) (Or.inl rfl)
                have t194 := J190.up t119
                have z195 := (ra_call I133 J190 (I133.up h_o0) (k := 43) rfl rfl rfl x1.toNatClampNeg).trans z139
                have z196 := (ra_call I133 J190 (I133.up h_o0) (k := 45) rfl rfl rfl (((80 * x1) + i5_78).toNatClampNeg))
                have K197 : rC M187 o0 44 := K140.same (sA_c I133 J190 (I133.up h_o0) (by decide +kernel)) (sF_c I133 J190 (I133.up h_o0) (by decide +kernel))
                clear z139
                have q198 := J190.keep t119 (by decide) (K134 _ 13 43 _ q122)
                have t199 := J190.up t123
                have q200 := J190.keep t119 (by decide) (K134 _ 13 46 _ q124)
                have t201 := J190.up t125
                have q202 := J190.keep t119 (by decide) (K134 _ 13 1 _ q126)
                have q203 := J190.keep t119 (by decide) (K134 _ 13 47 _ q128)
                have t204 := J190.up t_a129
                have q205 := J190.keep t119 (by decide) q141
                have t206 := J190.up t_a142
                have q207 := J190.keep t119 (by decide) q146
                have t208 := J190.up t_a147
                have q209 := J190.keep t119 (by decide) q148
                have t210 := J190.up t_a149
                refine mv_iinc (v := (i5_78 + 1)) (lv' := [(5, .int (i5_78 + 1)), (7, .int v116), (6, .int ((80 * x1) + i5_78)), (4, .int v70), (3, .int (x2 / 360)), (0, .ref o0), (1, .int x1), (2, .int x2)]) d_TrustDeskModel_closes_221 rfl rfl (by decide) rfl ?_
                refine mv_goto (tgt := 56) d_TrustDeskModel_closes_224 (by decide) ?_
                have b211 : (i5_78 + 1 : Int32).toInt = (i5_78.toInt + 1) := mz_add2 rfl (by decide) (by omega) (by omega)
                refine mv_locals (lv' := [(5, .int (i5_78 + 1)), (4, .int v70), (3, .int (x2 / 360)), (0, .ref o0), (1, .int x1), (2, .int x2)]) (by intro q hq; simp only [List.mem_cons, List.not_mem_nil, or_false] at hq; rcases hq with rfl | rfl | rfl | rfl | rfl | rfl <;> rfl) ?_
                have b212 : (i5_78 + 1).toInt = i5_78.toInt + 1 := mz_addn 1 1 (by decide) (by have := mz_lo i5_78; omega) (by have := mz_hi i5_78; omega)
                exact (ih78 (i5_78 + 1) T189 M187 n188 I191 t194 (by first | omega | decide | exact fun h9 => absurd (by decide) h9) R193 K197 (by omega))
            · refine mv_iload d_TrustDeskModel_closes_186 rfl ?_
              refine mv_goto (tgt := 218) d_TrustDeskModel_closes_188 (by decide) ?_
              obtain ⟨_, b219, -⟩ := I133.1 _ _ t119
              refine mv_callV (kc' := 0) (ks' := 0) (As := [.int x1, .int i5_78, .int (x2 / 360), .int v116]) (st9 := [.int v116, .int (x2 / 360), .int i5_78, .int x1, .ref o0]) d_TrustDeskModel_closes_218 lV_TrustDeskModel_483 b219 rfl (tc_TrustDeskModel_pays_x (d := (d + 2)) (x9 := x9) (o0 := o0) (x1 := x1) (x2 := i5_78) (x3 := (x2 / 360)) (x4 := v116) t119 (by omega) R135 (by omega) I133.start) rfl (Nat.le_of_ble_eq_true rfl) (Nat.le_of_ble_eq_true rfl) (Nat.le_of_ble_eq_true rfl) (hst := rfl) (fun b213r M214 n215 b213 => ?_)
              obtain ⟨T216, J217, rfl, R220⟩ := b213
              have I218 := I133.call J217 (tm_sub (by decide)) (Or.inl rfl)
              have t221 := J217.up t119
              have z222 := (ra_call I133 J217 (I133.up h_o0) (k := 43) rfl rfl rfl x1.toNatClampNeg).trans z139
              have K223 : rC M214 o0 44 := K140.same (sA_c I133 J217 (I133.up h_o0) (by decide +kernel)) (sF_c I133 J217 (I133.up h_o0) (by decide +kernel))
              clear z139
              have q224 := J217.keep t119 (by decide) (K134 _ 13 43 _ q122)
              have t225 := J217.up t123
              have q226 := J217.keep t119 (by decide) (K134 _ 13 46 _ q124)
              have t227 := J217.up t125
              have q228 := J217.keep t119 (by decide) (K134 _ 13 1 _ q126)
              have q229 := J217.keep t119 (by decide) (K134 _ 13 47 _ q128)
              have t230 := J217.up t_a129
              have q231 := J217.keep t119 (by decide) q141
              have t232 := J217.up t_a142
              refine mv_iinc (v := (i5_78 + 1)) (lv' := [(5, .int (i5_78 + 1)), (7, .int v116), (6, .int ((80 * x1) + i5_78)), (4, .int v70), (3, .int (x2 / 360)), (0, .ref o0), (1, .int x1), (2, .int x2)]) d_TrustDeskModel_closes_221 rfl rfl (by decide) rfl ?_
              refine mv_goto (tgt := 56) d_TrustDeskModel_closes_224 (by decide) ?_
              have b233 : (i5_78 + 1 : Int32).toInt = (i5_78.toInt + 1) := mz_add2 rfl (by decide) (by omega) (by omega)
              refine mv_locals (lv' := [(5, .int (i5_78 + 1)), (4, .int v70), (3, .int (x2 / 360)), (0, .ref o0), (1, .int x1), (2, .int x2)]) (by intro q hq; simp only [List.mem_cons, List.not_mem_nil, or_false] at hq; rcases hq with rfl | rfl | rfl | rfl | rfl | rfl <;> rfl) ?_
              have b234 : (i5_78 + 1).toInt = i5_78.toInt + 1 := mz_addn 1 1 (by decide) (by have := mz_lo i5_78; omega) (by have := mz_hi i5_78; omega)
              exact (ih78 (i5_78 + 1) T216 M214 n215 I218 t221 (by first | omega | decide | exact fun h9 => absurd (by decide) h9) R220 K223 (by omega))
          · refine mv_aload_n d_TrustDeskModel_closes_115 rfl rfl ?_
            obtain ⟨a236, q235, t_a236⟩ := tm_atR I114 t119 (k := 47) rfl
            refine tr_getK q235 d_TrustDeskModel_closes_116 f_TrustDeskModel_110_13 ?_
            refine mv_iload d_TrustDeskModel_closes_119 rfl ?_
            refine mv_dup2_11 d_TrustDeskModel_closes_121 rfl rfl ?_
            have b237 : (80 * x1 : Int32).toInt = (80 * x1.toInt) := mz_mul2 (by decide) rfl (by omega) (by omega)
            have b238 : ((80 * x1) + i5_78 : Int32).toInt = ((80 * x1.toInt) + i5_78.toInt) := mz_add2 b237 rfl (by omega) (by omega)
            refine tr_ialdR (o := o0) (k := 47) I114 q235 t_a236 (by decide) d_TrustDeskModel_closes_122 (vp_in_iff.mpr (by omega)) (fun v239 e240 => ?_)
            refine mv_iconst (v := 1) d_TrustDeskModel_closes_123 (by decide) ?_
            refine mv_iadd d_TrustDeskModel_closes_124 ?_
            have b241 : (80 * x1 : Int32).toInt = (80 * x1.toInt) := mz_mul2 (by decide) rfl (by omega) (by omega)
            have b242 : ((80 * x1) + i5_78 : Int32).toInt = ((80 * x1.toInt) + i5_78.toInt) := mz_add2 b241 rfl (by omega) (by omega)
            refine tr_iastR (k := 47) I114 R117 (I114.up h_o0) q235 t_a236 (by decide) (by decide) (fun lo hi h => by cases h) (Or.inl (by decide)) d_TrustDeskModel_closes_125 (vp_in_iff.mpr (by omega)) (fun M243 I244 K245 R246 E247 A248 V249 => ?_)
            have z250 := (A248 43 (by decide) rfl x1.toNatClampNeg).trans z120
            have K251 : rC M243 o0 44 := K121.same (sA_a A248 (by decide +kernel)) (sF_a V249)
            clear z120
            refine mv_aload_n d_TrustDeskModel_closes_126 rfl rfl ?_
            refine tr_getK (k := 47) (K245 _ 13 47 _ q235) d_TrustDeskModel_closes_127 f_TrustDeskModel_110_13 ?_
            refine mv_iload d_TrustDeskModel_closes_130 rfl ?_
            have b252 : (80 * x1 : Int32).toInt = (80 * x1.toInt) := mz_mul2 (by decide) rfl (by omega) (by omega)
            have b253 : ((80 * x1) + i5_78 : Int32).toInt = ((80 * x1.toInt) + i5_78.toInt) := mz_add2 b252 rfl (by omega) (by omega)
            refine tr_ialdR (o := o0) (k := 47) I244 (K245 _ 13 47 _ q235) t_a236 (by decide) d_TrustDeskModel_closes_132 (vp_in_iff.mpr (by omega)) (fun v254 e255 => ?_)
            refine mv_iload d_TrustDeskModel_closes_133 rfl ?_
            have := mz_hi v254
            have := mz_hi v70
            refine mv_icmp_geZ (tgt := 141) (a := v254.toInt) (b := v70.toInt) d_TrustDeskModel_closes_135 (by decide) rfl rfl (fun b256 => ?_) (fun b256 => ?_)
            · refine mv_aload_n d_TrustDeskModel_closes_141 rfl rfl ?_
              refine tr_getK (k := 46) (K245 _ 13 46 _ q124) d_TrustDeskModel_closes_142 f_TrustDeskModel_107_13 ?_
              refine mv_iload d_TrustDeskModel_closes_145 rfl ?_
              refine mv_iconst (v := 1) d_TrustDeskModel_closes_147 (by decide) ?_
              have b257 : (80 * x1 : Int32).toInt = (80 * x1.toInt) := mz_mul2 (by decide) rfl (by omega) (by omega)
              have b258 : ((80 * x1) + i5_78 : Int32).toInt = ((80 * x1.toInt) + i5_78.toInt) := mz_add2 b257 rfl (by omega) (by omega)
              refine tr_iastR (k := 46) I244 R246 (I244.up h_o0) (K245 _ 13 46 _ q124) t125 (by decide) (by decide) (fun lo hi h => by cases h) (Or.inl (by decide)) d_TrustDeskModel_closes_148 (vp_in_iff.mpr (by omega)) (fun M259 I260 K261 R262 E263 A264 V265 => ?_)
              have z266 := (A264 43 (by decide) rfl x1.toNatClampNeg).trans z250
              have K267 : rC M259 o0 44 := K251.same (sA_a A264 (by decide +kernel)) (sF_a V265)
              clear z250
              refine mv_aload_n d_TrustDeskModel_closes_149 rfl rfl ?_
              obtain ⟨a269, q268, t_a269⟩ := tm_atR I260 t119 (k := 48) rfl
              refine tr_getK q268 d_TrustDeskModel_closes_150 f_TrustDeskModel_113_13 ?_
              refine mv_iload d_TrustDeskModel_closes_153 rfl ?_
              refine mv_iload_n d_TrustDeskModel_closes_155 rfl rfl ?_
              have b270 : (80 * x1 : Int32).toInt = (80 * x1.toInt) := mz_mul2 (by decide) rfl (by omega) (by omega)
              have b271 : ((80 * x1) + i5_78 : Int32).toInt = ((80 * x1.toInt) + i5_78.toInt) := mz_add2 b270 rfl (by omega) (by omega)
              refine tr_iastR (k := 48) I260 R262 (I260.up h_o0) q268 t_a269 (by decide) (by decide) (fun lo hi h => by cases h) (Or.inl (by decide)) d_TrustDeskModel_closes_156 (vp_in_iff.mpr (by omega)) (fun M272 I273 K274 R275 E276 A277 V278 => ?_)
              have z279 := (A277 43 (by decide) rfl x1.toNatClampNeg).trans z266
              have K280 : rC M272 o0 44 := K267.same (sA_a A277 (by decide +kernel)) (sF_a V278)
              clear z266
              refine mv_goto (tgt := 221) d_TrustDeskModel_closes_157 (by decide) ?_
              refine mv_iinc (v := (i5_78 + 1)) (lv' := [(5, .int (i5_78 + 1)), (7, .int v116), (6, .int ((80 * x1) + i5_78)), (4, .int v70), (3, .int (x2 / 360)), (0, .ref o0), (1, .int x1), (2, .int x2)]) d_TrustDeskModel_closes_221 rfl rfl (by decide) rfl ?_
              refine mv_goto (tgt := 56) d_TrustDeskModel_closes_224 (by decide) ?_
              have b281 : (i5_78 + 1 : Int32).toInt = (i5_78.toInt + 1) := mz_add2 rfl (by decide) (by omega) (by omega)
              refine mv_locals (lv' := [(5, .int (i5_78 + 1)), (4, .int v70), (3, .int (x2 / 360)), (0, .ref o0), (1, .int x1), (2, .int x2)]) (by intro q hq; simp only [List.mem_cons, List.not_mem_nil, or_false] at hq; rcases hq with rfl | rfl | rfl | rfl | rfl | rfl <;> rfl) ?_
              have b282 : (i5_78 + 1).toInt = i5_78.toInt + 1 := mz_addn 1 1 (by decide) (by have := mz_lo i5_78; omega) (by have := mz_hi i5_78; omega)
              exact (ih78 (i5_78 + 1) T112 M272 n111 I273 t119 (by first | omega | decide | exact fun h9 => absurd (by decide) h9) R275 K280 (by omega))
            · refine mv_goto (tgt := 221) d_TrustDeskModel_closes_138 (by decide) ?_
              refine mv_iinc (v := (i5_78 + 1)) (lv' := [(5, .int (i5_78 + 1)), (7, .int v116), (6, .int ((80 * x1) + i5_78)), (4, .int v70), (3, .int (x2 / 360)), (0, .ref o0), (1, .int x1), (2, .int x2)]) d_TrustDeskModel_closes_221 rfl rfl (by decide) rfl ?_
              refine mv_goto (tgt := 56) d_TrustDeskModel_closes_224 (by decide) ?_
              have b283 : (i5_78 + 1 : Int32).toInt = (i5_78.toInt + 1) := mz_add2 rfl (by decide) (by omega) (by omega)
              refine mv_locals (lv' := [(5, .int (i5_78 + 1)), (4, .int v70), (3, .int (x2 / 360)), (0, .ref o0), (1, .int x1), (2, .int x2)]) (by intro q hq; simp only [List.mem_cons, List.not_mem_nil, or_false] at hq; rcases hq with rfl | rfl | rfl | rfl | rfl | rfl <;> rfl) ?_
              have b284 : (i5_78 + 1).toInt = i5_78.toInt + 1 := mz_addn 1 1 (by decide) (by have := mz_lo i5_78; omega) (by have := mz_hi i5_78; omega)
              exact (ih78 (i5_78 + 1) T112 M243 n111 I244 t119 (by first | omega | decide | exact fun h9 => absurd (by decide) h9) R246 K251 (by omega))
        · refine mv_goto (tgt := 221) d_TrustDeskModel_closes_86 (by decide) ?_
          refine mv_iinc (v := (i5_78 + 1)) (lv' := [(5, .int (i5_78 + 1)), (6, .int ((80 * x1) + i5_78)), (4, .int v70), (3, .int (x2 / 360)), (0, .ref o0), (1, .int x1), (2, .int x2)]) d_TrustDeskModel_closes_221 rfl rfl (by decide) rfl ?_
          refine mv_goto (tgt := 56) d_TrustDeskModel_closes_224 (by decide) ?_
          have b285 : (i5_78 + 1 : Int32).toInt = (i5_78.toInt + 1) := mz_add2 rfl (by decide) (by omega) (by omega)
          refine mv_locals (lv' := [(5, .int (i5_78 + 1)), (4, .int v70), (3, .int (x2 / 360)), (0, .ref o0), (1, .int x1), (2, .int x2)]) (by intro q hq; simp only [List.mem_cons, List.not_mem_nil, or_false] at hq; rcases hq with rfl | rfl | rfl | rfl | rfl | rfl <;> rfl) ?_
          have b286 : (i5_78 + 1).toInt = i5_78.toInt + 1 := mz_addn 1 1 (by decide) (by have := mz_lo i5_78; omega) (by have := mz_hi i5_78; omega)
          exact (ih78 (i5_78 + 1) T_78 M_78 n_78 I_78 h_q0_78 (by first | omega | decide | exact fun h9 => absurd (by decide) h9) kKR_78 kKC_78 (by omega))
  have : (0 : Int32).toInt = 0 := by decide
  exact mv_less (Nat.zero_le _) (Nat.zero_le _) (L56_78 4294967296 0 T66 M64 n65 I68 t73 (by first | omega | decide | exact fun h9 => absurd (by decide) h9) R71 K74 (by show (2147483647 - (0 : Int) : Int) < _; decide))
abbrev kY_TrustDeskModel_days : mj_Y := (⟨"TrustDeskModel", "days", "(I)I"⟩, prog_14_method_67_code, 5, (Option.some Jvm.ClassFile.FieldType.int))
theorem d_TrustDeskModel_days_0 : decode kY_TrustDeskModel_days.2.1 0 = .ok (.aload_n 0, 1) := by decide +kernel
theorem d_TrustDeskModel_days_1 : decode kY_TrustDeskModel_days.2.1 1 = .ok (.iconst 0, 1) := by decide +kernel
theorem d_TrustDeskModel_days_2 : decode kY_TrustDeskModel_days.2.1 2 = .ok (.putfield 1, 3) := by decide +kernel
theorem d_TrustDeskModel_days_5 : decode kY_TrustDeskModel_days.2.1 5 = .ok (.iload_n 1, 1) := by decide +kernel
theorem d_TrustDeskModel_days_6 : decode kY_TrustDeskModel_days.2.1 6 = .ok (.i2l, 1) := by decide +kernel
theorem d_TrustDeskModel_days_7 : decode kY_TrustDeskModel_days.2.1 7 = .ok (.lconst 1, 1) := by decide +kernel
theorem d_TrustDeskModel_days_8 : decode kY_TrustDeskModel_days.2.1 8 = .ok (.ldc2_w 486, 3) := by decide +kernel
theorem k_TrustDeskModel_486 : Cond.constantLong "TrustDeskModel" 486 720 ∈ mj_T := (mj_in1 (List.mem_of_getElem? (i := 1880) (by decide +kernel)) rfl)
theorem d_TrustDeskModel_days_11 : decode kY_TrustDeskModel_days.2.1 11 = .ok (.invokestatic 169, 3) := by decide +kernel
theorem d_TrustDeskModel_days_14 : decode kY_TrustDeskModel_days.2.1 14 = .ok (.ifCond .eq 15, 3) := by decide +kernel
theorem d_TrustDeskModel_days_29 : decode kY_TrustDeskModel_days.2.1 29 = .ok (.iconst (-1), 1) := by decide +kernel
theorem d_TrustDeskModel_days_30 : decode kY_TrustDeskModel_days.2.1 30 = .ok (.ireturn, 1) := by decide +kernel
theorem d_TrustDeskModel_days_17 : decode kY_TrustDeskModel_days.2.1 17 = .ok (.aload_n 0, 1) := by decide +kernel
theorem d_TrustDeskModel_days_18 : decode kY_TrustDeskModel_days.2.1 18 = .ok (.getfield 164, 3) := by decide +kernel
theorem d_TrustDeskModel_days_21 : decode kY_TrustDeskModel_days.2.1 21 = .ok (.iload_n 1, 1) := by decide +kernel
theorem d_TrustDeskModel_days_22 : decode kY_TrustDeskModel_days.2.1 22 = .ok (.iadd, 1) := by decide +kernel
theorem d_TrustDeskModel_days_23 : decode kY_TrustDeskModel_days.2.1 23 = .ok (.ldc_w 488, 3) := by decide +kernel
theorem k_TrustDeskModel_488 : Cond.constant "TrustDeskModel" 488 36000 ∈ mj_T := (mj_in1 (List.mem_of_getElem? (i := 1881) (by decide +kernel)) rfl)
theorem d_TrustDeskModel_days_26 : decode kY_TrustDeskModel_days.2.1 26 = .ok (.if_icmp .le 5, 3) := by decide +kernel
theorem d_TrustDeskModel_days_31 : decode kY_TrustDeskModel_days.2.1 31 = .ok (.aload_n 0, 1) := by decide +kernel
theorem d_TrustDeskModel_days_32 : decode kY_TrustDeskModel_days.2.1 32 = .ok (.getfield 164, 3) := by decide +kernel
theorem d_TrustDeskModel_days_35 : decode kY_TrustDeskModel_days.2.1 35 = .ok (.istore_n 2, 1) := by decide +kernel
theorem d_TrustDeskModel_days_36 : decode kY_TrustDeskModel_days.2.1 36 = .ok (.iload_n 2, 1) := by decide +kernel
theorem d_TrustDeskModel_days_37 : decode kY_TrustDeskModel_days.2.1 37 = .ok (.istore_n 3, 1) := by decide +kernel
theorem d_TrustDeskModel_days_38 : decode kY_TrustDeskModel_days.2.1 38 = .ok (.iload_n 3, 1) := by decide +kernel
theorem d_TrustDeskModel_days_39 : decode kY_TrustDeskModel_days.2.1 39 = .ok (.iload_n 2, 1) := by decide +kernel
theorem d_TrustDeskModel_days_40 : decode kY_TrustDeskModel_days.2.1 40 = .ok (.iload_n 1, 1) := by decide +kernel
theorem d_TrustDeskModel_days_41 : decode kY_TrustDeskModel_days.2.1 41 = .ok (.iadd, 1) := by decide +kernel
theorem d_TrustDeskModel_days_42 : decode kY_TrustDeskModel_days.2.1 42 = .ok (.if_icmp .ge 64, 3) := by decide +kernel
theorem d_TrustDeskModel_days_106 : decode kY_TrustDeskModel_days.2.1 106 = .ok (.aload_n 0, 1) := by decide +kernel
theorem d_TrustDeskModel_days_107 : decode kY_TrustDeskModel_days.2.1 107 = .ok (.iload_n 2, 1) := by decide +kernel
theorem d_TrustDeskModel_days_108 : decode kY_TrustDeskModel_days.2.1 108 = .ok (.iload_n 1, 1) := by decide +kernel
theorem d_TrustDeskModel_days_109 : decode kY_TrustDeskModel_days.2.1 109 = .ok (.iadd, 1) := by decide +kernel
theorem d_TrustDeskModel_days_110 : decode kY_TrustDeskModel_days.2.1 110 = .ok (.putfield 164, 3) := by decide +kernel
theorem p_TrustDeskModel_164_13 : mj_fp "TrustDeskModel" 164 13 1 (kt_TrustDeskModel 1) false := ⟨kR_TrustDeskModel, kF_TrustDeskModel, 72, "TrustDeskModel", kt_TrustDeskModel, rfl, kg_13, by decide, (mj_in1 (List.mem_of_getElem? (i := 1387) (by decide +kernel)) rfl), Or.inl rfl, kto_TrustDeskModel, kn_TrustDeskModel, rfl, rfl, fun h => by cases h⟩
theorem d_TrustDeskModel_days_113 : decode kY_TrustDeskModel_days.2.1 113 = .ok (.aload_n 0, 1) := by decide +kernel
theorem d_TrustDeskModel_days_114 : decode kY_TrustDeskModel_days.2.1 114 = .ok (.getfield 164, 3) := by decide +kernel
theorem d_TrustDeskModel_days_117 : decode kY_TrustDeskModel_days.2.1 117 = .ok (.ireturn, 1) := by decide +kernel
theorem d_TrustDeskModel_days_45 : decode kY_TrustDeskModel_days.2.1 45 = .ok (.aload_n 0, 1) := by decide +kernel
theorem d_TrustDeskModel_days_46 : decode kY_TrustDeskModel_days.2.1 46 = .ok (.iload_n 3, 1) := by decide +kernel
theorem d_TrustDeskModel_days_47 : decode kY_TrustDeskModel_days.2.1 47 = .ok (.putfield 164, 3) := by decide +kernel
theorem d_TrustDeskModel_days_50 : decode kY_TrustDeskModel_days.2.1 50 = .ok (.iload_n 3, 1) := by decide +kernel
theorem d_TrustDeskModel_days_51 : decode kY_TrustDeskModel_days.2.1 51 = .ok (.sipush 360, 3) := by decide +kernel
theorem d_TrustDeskModel_days_54 : decode kY_TrustDeskModel_days.2.1 54 = .ok (.irem, 1) := by decide +kernel
theorem d_TrustDeskModel_days_55 : decode kY_TrustDeskModel_days.2.1 55 = .ok (.sipush 359, 3) := by decide +kernel
theorem d_TrustDeskModel_days_58 : decode kY_TrustDeskModel_days.2.1 58 = .ok (.if_icmp .eq 6, 3) := by decide +kernel
theorem d_TrustDeskModel_days_64 : decode kY_TrustDeskModel_days.2.1 64 = .ok (.iconst 0, 1) := by decide +kernel
theorem d_TrustDeskModel_days_65 : decode kY_TrustDeskModel_days.2.1 65 = .ok (.istore 4, 2) := by decide +kernel
theorem d_TrustDeskModel_days_67 : decode kY_TrustDeskModel_days.2.1 67 = .ok (.iload 4, 2) := by decide +kernel
theorem d_TrustDeskModel_days_69 : decode kY_TrustDeskModel_days.2.1 69 = .ok (.aload_n 0, 1) := by decide +kernel
theorem d_TrustDeskModel_days_70 : decode kY_TrustDeskModel_days.2.1 70 = .ok (.getfield 415, 3) := by decide +kernel
theorem d_TrustDeskModel_days_73 : decode kY_TrustDeskModel_days.2.1 73 = .ok (.if_icmp .ge 27, 3) := by decide +kernel
theorem d_TrustDeskModel_days_100 : decode kY_TrustDeskModel_days.2.1 100 = .ok (.iinc 3 1, 3) := by decide +kernel
theorem d_TrustDeskModel_days_103 : decode kY_TrustDeskModel_days.2.1 103 = .ok (.goto (-65), 3) := by decide +kernel
theorem d_TrustDeskModel_days_76 : decode kY_TrustDeskModel_days.2.1 76 = .ok (.aload_n 0, 1) := by decide +kernel
theorem d_TrustDeskModel_days_77 : decode kY_TrustDeskModel_days.2.1 77 = .ok (.getfield 79, 3) := by decide +kernel
theorem d_TrustDeskModel_days_80 : decode kY_TrustDeskModel_days.2.1 80 = .ok (.iload 4, 2) := by decide +kernel
theorem d_TrustDeskModel_days_82 : decode kY_TrustDeskModel_days.2.1 82 = .ok (.iaload, 1) := by decide +kernel
theorem d_TrustDeskModel_days_83 : decode kY_TrustDeskModel_days.2.1 83 = .ok (.iconst (-1), 1) := by decide +kernel
theorem d_TrustDeskModel_days_84 : decode kY_TrustDeskModel_days.2.1 84 = .ok (.if_icmp .ne 10, 3) := by decide +kernel
theorem d_TrustDeskModel_days_94 : decode kY_TrustDeskModel_days.2.1 94 = .ok (.iinc 4 1, 3) := by decide +kernel
theorem d_TrustDeskModel_days_97 : decode kY_TrustDeskModel_days.2.1 97 = .ok (.goto (-30), 3) := by decide +kernel
theorem d_TrustDeskModel_days_87 : decode kY_TrustDeskModel_days.2.1 87 = .ok (.aload_n 0, 1) := by decide +kernel
theorem d_TrustDeskModel_days_88 : decode kY_TrustDeskModel_days.2.1 88 = .ok (.iload 4, 2) := by decide +kernel
theorem d_TrustDeskModel_days_90 : decode kY_TrustDeskModel_days.2.1 90 = .ok (.iload_n 3, 1) := by decide +kernel
theorem d_TrustDeskModel_days_91 : decode kY_TrustDeskModel_days.2.1 91 = .ok (.invokevirtual 489, 3) := by decide +kernel
theorem lV_TrustDeskModel_489 : mj_lV "TrustDeskModel" 489 kY_TrustDeskModel_closes 2 := ⟨⟨(mj_in1 (List.mem_of_getElem? (i := 1882) (by decide +kernel)) rfl), (mj_in1 (List.mem_of_getElem? (i := 10) (by decide +kernel)) rfl), (mj_in1 (List.mem_of_getElem? (i := 1885) (by decide +kernel)) rfl), by decide, rfl, by decide⟩, (mj_in1 (List.mem_of_getElem? (i := 1884) (by decide +kernel)) rfl), (mj_in (List.mem_append_left _ (List.mem_of_getElem? (i := 118) (by decide +kernel))) rfl)⟩
theorem d_TrustDeskModel_days_61 : decode kY_TrustDeskModel_days.2.1 61 = .ok (.goto 39, 3) := by decide +kernel
def w_TrustDeskModel_days_x : List Nat := [1300, 1301, 1331, 1351, 20029, 20030, 20035, 20042, 20046, 20047, 20048, 20052]
set_option maxHeartbeats 100000000 in theorem tc_TrustDeskModel_days_x {g : mj_G} {l : Launch} {d : Nat} {T0 : tm_H} {M0 : mj_M} {n0 x9 : Nat} {o0 : Nat} {x1 : Int32} (h_o0 : T0 o0 = some (0, 13, 0)) (yR : rI M0 o0) {t : Int32} (y_t : tm_at M0 o0 13 1 (.int t)) (yC : rC M0 o0 44) (I0 : tm_I tm_FT (tm_in w_TrustDeskModel_days_x) x9 T0 M0 n0 T0 M0 n0) : mj_Met g l kY_TrustDeskModel_days (d + 5) [.ref o0, .int x1] M0 n0 0 0 (tm_Q tm_FT (tm_in w_TrustDeskModel_days_x) x9 T0 M0 n0 (fun r _ M => ∃ v : Int32, r = some (.int v) ∧ rI M o0 ∧ ((v = -1 ∧ (x1.toInt < 1 ∨ 720 < x1.toInt ∨ 36000 < (t + x1).toInt) ∧ tm_at M o0 13 1 (.int t)) ∨ (v = t + x1 ∧ ¬ (x1.toInt < 1 ∨ 720 < x1.toInt ∨ 36000 < (t + x1).toInt) ∧ tm_at M o0 13 1 (.int (t + x1)))) ∧ (rC M o0 44))) := by
  refine mj_enter (by decide) (Nat.le_of_ble_eq_true rfl) ?_
  have := yR.f (k := 1) y_t rfl
  have K1 : rC M0 o0 44 := yC
  refine mv_aload_n d_TrustDeskModel_days_0 rfl rfl ?_
  refine mv_iconst (v := 0) d_TrustDeskModel_days_1 (by decide) ?_
  refine tr_putR (k := 0) I0 yR h_o0 rfl ⟨_, rfl⟩ (fun _ h => by cases h) rfl (fun lo hi h => by cases h) (Or.inl (by decide)) d_TrustDeskModel_days_2 p_TrustDeskModel_1_13 rfl rfl (fun M2 I3 q4 K5 R6 A7 V8 => ?_)
  have K9 : rC M2 o0 44 := K1.same (sA_f A7 (by decide)) (sF_f V8 (by decide))
  refine mv_iload_n d_TrustDeskModel_days_5 rfl rfl ?_
  refine mv_i2l (v := x1.toInt64) d_TrustDeskModel_days_6 rfl ?_
  refine mv_lconst (v := 1) d_TrustDeskModel_days_7 (by decide) ?_
  refine mv_ldc2 d_TrustDeskModel_days_8 k_TrustDeskModel_486 ?_
  refine mv_callS (kc1 := 0) (ks1 := 0) (kc' := 0) (ks' := 0) (As := [.long x1.toInt64, .long 1, .long 720]) (st9 := [.long 720, .long 1, .long x1.toInt64]) d_TrustDeskModel_days_11 lS_TrustDeskModel_169 (mj_enter (by decide) (Nat.le_of_ble_eq_true rfl) ?_) rfl (Nat.le_of_ble_eq_true rfl) (Nat.le_of_ble_eq_true rfl) (Nat.le_of_ble_eq_true rfl) (hst := rfl) (fun _ _ _ h => h)
  refine mv_lload_n d_TrustDeskModel_within_0 rfl rfl ?_
  refine mv_lload_n d_TrustDeskModel_within_1 rfl rfl ?_
  refine mv_lltZ (tgt := 17) (a := x1.toInt) (b := 1) d_TrustDeskModel_within_2 d_TrustDeskModel_within_3 (by decide) (mz_wide _) (by decide) (fun b10 => ?_) (fun b10 => ?_)
  · refine mv_iconst (v := 0) d_TrustDeskModel_within_17 (by decide) ?_
    refine mv_iret d_TrustDeskModel_within_18 rfl (by decide) ?_
    refine mv_if_eq_t (tgt := 29) d_TrustDeskModel_days_14 (by decide) (by decide) ?_
    refine mv_iconst (v := (-1)) d_TrustDeskModel_days_29 (by decide) ?_
    exact mv_iret d_TrustDeskModel_days_30 rfl (by first | rfl | decide) ⟨_, I3, _, rfl, R6, (Or.inl ⟨rfl, (by omega), (K5 _ 13 1 _ rfl y_t)⟩), K9⟩
  · refine mv_lload_n d_TrustDeskModel_within_6 rfl rfl ?_
    refine mv_lload d_TrustDeskModel_within_7 rfl ?_
    refine mv_lgtZ (tgt := 17) (a := x1.toInt) (b := 720) d_TrustDeskModel_within_9 d_TrustDeskModel_within_10 (by decide) (mz_wide _) (by decide) (fun b11 => ?_) (fun b11 => ?_)
    · refine mv_iconst (v := 0) d_TrustDeskModel_within_17 (by decide) ?_
      refine mv_iret d_TrustDeskModel_within_18 rfl (by decide) ?_
      refine mv_if_eq_t (tgt := 29) d_TrustDeskModel_days_14 (by decide) (by decide) ?_
      refine mv_iconst (v := (-1)) d_TrustDeskModel_days_29 (by decide) ?_
      exact mv_iret d_TrustDeskModel_days_30 rfl (by first | rfl | decide) ⟨_, I3, _, rfl, R6, (Or.inl ⟨rfl, (by omega), (K5 _ 13 1 _ rfl y_t)⟩), K9⟩
    · refine mv_iconst (v := 1) d_TrustDeskModel_within_13 (by decide) ?_
      refine mv_goto (tgt := 18) d_TrustDeskModel_within_14 (by decide) ?_
      refine mv_iret d_TrustDeskModel_within_18 rfl (by decide) ?_
      refine mv_if_eq_f (tgt := 29) d_TrustDeskModel_days_14 (by decide) (by decide) ?_
      refine mv_aload_n d_TrustDeskModel_days_17 rfl rfl ?_
      refine tr_getK (k := 1) (K5 _ 13 1 _ rfl y_t) d_TrustDeskModel_days_18 f_TrustDeskModel_164_13 ?_
      refine mv_iload_n d_TrustDeskModel_days_21 rfl rfl ?_
      refine mv_iadd d_TrustDeskModel_days_22 ?_
      refine mv_ldcw d_TrustDeskModel_days_23 k_TrustDeskModel_488 ?_
      have b12 : (t + x1 : Int32).toInt = (t.toInt + x1.toInt) := mz_add2 rfl rfl (by omega) (by omega)
      have := mz_hi (t + x1)
      refine mv_icmp_leZ (tgt := 31) (a := (t + x1).toInt) (b := 36000) d_TrustDeskModel_days_26 (by decide) rfl (by decide) (fun b13 => ?_) (fun b13 => ?_)
      · refine mv_aload_n d_TrustDeskModel_days_31 rfl rfl ?_
        refine tr_getK (k := 1) (K5 _ 13 1 _ rfl y_t) d_TrustDeskModel_days_32 f_TrustDeskModel_164_13 ?_
        refine mv_istore_n (lv' := [(2, .int t), (0, .ref o0), (1, .int x1)]) d_TrustDeskModel_days_35 rfl (by decide) rfl ?_
        refine mv_iload_n d_TrustDeskModel_days_36 rfl rfl ?_
        refine mv_istore_n (lv' := [(3, .int t), (2, .int t), (0, .ref o0), (1, .int x1)]) d_TrustDeskModel_days_37 rfl (by decide) rfl ?_
        have L38_14 : ∀ (k : Nat) (i3_14 : Int32) (T_14 : tm_H) (M_14 : mj_M) (n_14 : Nat), tm_I tm_FT (tm_in w_TrustDeskModel_days_x) x9 T0 M0 n0 T_14 M_14 n_14 → T_14 o0 = some (0, 13, 0) → t.toInt ≤ i3_14.toInt → i3_14.toInt ≤ t.toInt + x1.toInt → (rI M_14 o0) → (rC M_14 o0 44) → 2147483647 - i3_14.toInt < (k : Int) → mj_V g l kY_TrustDeskModel_days (d + 5) 38 [(3, .int i3_14), (2, .int t), (0, .ref o0), (1, .int x1)] [] M_14 n_14 0 0 (tm_Q tm_FT (tm_in w_TrustDeskModel_days_x) x9 T0 M0 n0 (fun r _ M => ∃ v : Int32, r = some (.int v) ∧ rI M o0 ∧ ((v = -1 ∧ (x1.toInt < 1 ∨ 720 < x1.toInt ∨ 36000 < (t + x1).toInt) ∧ tm_at M o0 13 1 (.int t)) ∨ (v = t + x1 ∧ ¬ (x1.toInt < 1 ∨ 720 < x1.toInt ∨ 36000 < (t + x1).toInt) ∧ tm_at M o0 13 1 (.int (t + x1)))) ∧ (rC M o0 44))) := by
          intro k14
          induction k14 with
          | zero =>
            intro i3_14 T_14 M_14 n_14 I_14 h_q0_14 iv0_14 iv1_14 kKR_14 kKC_14 hk14
            have := mz_hi i3_14
            have := kKR_14.1 15 _ _ rfl
            have := kKR_14.1 16 _ _ rfl
            have := kKR_14.1 19 _ _ rfl
            omega
          | succ k14 ih14 =>
            intro i3_14 T_14 M_14 n_14 I_14 h_q0_14 iv0_14 iv1_14 kKR_14 kKC_14 hk14
            refine mv_iload_n d_TrustDeskModel_days_38 rfl rfl ?_
            refine mv_iload_n d_TrustDeskModel_days_39 rfl rfl ?_
            refine mv_iload_n d_TrustDeskModel_days_40 rfl rfl ?_
            refine mv_iadd d_TrustDeskModel_days_41 ?_
            have b15 : (t + x1 : Int32).toInt = (t.toInt + x1.toInt) := mz_add2 rfl rfl (by omega) (by omega)
            have := mz_hi i3_14
            have := mz_hi (t + x1)
            refine mv_icmp_geZ (tgt := 106) (a := i3_14.toInt) (b := (t + x1).toInt) d_TrustDeskModel_days_42 (by decide) rfl rfl (fun b16 => ?_) (fun b16 => ?_)
            · refine mv_aload_n d_TrustDeskModel_days_106 rfl rfl ?_
              refine mv_iload_n d_TrustDeskModel_days_107 rfl rfl ?_
              refine mv_iload_n d_TrustDeskModel_days_108 rfl rfl ?_
              refine mv_iadd d_TrustDeskModel_days_109 ?_
              have b17 : (t + x1 : Int32).toInt = (t.toInt + x1.toInt) := mz_add2 rfl rfl (by omega) (by omega)
              refine tr_putR (k := 1) I_14 kKR_14 h_q0_14 rfl ⟨_, rfl⟩ (fun _ h => by cases h) rfl (fun lo hi h => by cases h; exact ⟨by show (0 : Int) ≤ (t + x1).toInt; omega, by show (t + x1).toInt ≤ (36000 : Int); omega⟩) (Or.inl (by decide)) d_TrustDeskModel_days_110 p_TrustDeskModel_164_13 rfl rfl (fun M18 I19 q20 K21 R22 A23 V24 => ?_)
              have K25 : rC M18 o0 44 := kKC_14.same (sA_f A23 (by decide)) (sF_f V24 (by decide))
              refine mv_aload_n d_TrustDeskModel_days_113 rfl rfl ?_
              refine tr_getK (k := 1) q20 d_TrustDeskModel_days_114 f_TrustDeskModel_164_13 ?_
              exact mv_iret d_TrustDeskModel_days_117 rfl (by first | rfl | decide) ⟨_, I19, _, rfl, R22, (Or.inr ⟨rfl, (by omega), q20⟩), K25⟩
            · refine mv_aload_n d_TrustDeskModel_days_45 rfl rfl ?_
              refine mv_iload_n d_TrustDeskModel_days_46 rfl rfl ?_
              refine tr_putR (k := 1) I_14 kKR_14 h_q0_14 rfl ⟨_, rfl⟩ (fun _ h => by cases h) rfl (fun lo hi h => by cases h; exact ⟨by show (0 : Int) ≤ i3_14.toInt; omega, by show i3_14.toInt ≤ (36000 : Int); omega⟩) (Or.inl (by decide)) d_TrustDeskModel_days_47 p_TrustDeskModel_164_13 rfl rfl (fun M26 I27 q28 K29 R30 A31 V32 => ?_)
              have K33 : rC M26 o0 44 := kKC_14.same (sA_f A31 (by decide)) (sF_f V32 (by decide))
              refine mv_iload_n d_TrustDeskModel_days_50 rfl rfl ?_
              refine mv_sipush (v := 360) d_TrustDeskModel_days_51 (by decide) ?_
              refine mv_irem d_TrustDeskModel_days_54 (by decide) ?_
              refine mv_sipush (v := 359) d_TrustDeskModel_days_55 (by decide) ?_
              have := mz_hi (i3_14 - i3_14 / 360 * 360)
              refine mv_icmp_eqZ (tgt := 64) (a := (i3_14 - i3_14 / 360 * 360).toInt) (b := 359) d_TrustDeskModel_days_58 (by decide) rfl (by decide) (fun b34 => ?_) (fun b34 => ?_)
              · refine mv_iconst (v := 0) d_TrustDeskModel_days_64 (by decide) ?_
                refine mv_istore (lv' := [(4, .int 0), (3, .int i3_14), (2, .int t), (0, .ref o0), (1, .int x1)]) d_TrustDeskModel_days_65 (by decide) rfl ?_
                have L67_35 : ∀ (k : Nat) (i4_35 : Int32) (T_35 : tm_H) (M_35 : mj_M) (n_35 : Nat), tm_I tm_FT (tm_in w_TrustDeskModel_days_x) x9 T0 M0 n0 T_35 M_35 n_35 → T_35 o0 = some (0, 13, 0) → 0 ≤ i4_35.toInt → (rI M_35 o0) → (rC M_35 o0 44) → 2147483647 - i4_35.toInt < (k : Int) → mj_V g l kY_TrustDeskModel_days (d + 5) 67 [(4, .int i4_35), (3, .int i3_14), (2, .int t), (0, .ref o0), (1, .int x1)] [] M_35 n_35 0 0 (tm_Q tm_FT (tm_in w_TrustDeskModel_days_x) x9 T0 M0 n0 (fun r _ M => ∃ v : Int32, r = some (.int v) ∧ rI M o0 ∧ ((v = -1 ∧ (x1.toInt < 1 ∨ 720 < x1.toInt ∨ 36000 < (t + x1).toInt) ∧ tm_at M o0 13 1 (.int t)) ∨ (v = t + x1 ∧ ¬ (x1.toInt < 1 ∨ 720 < x1.toInt ∨ 36000 < (t + x1).toInt) ∧ tm_at M o0 13 1 (.int (t + x1)))) ∧ (rC M o0 44))) := by
                  intro k35
                  induction k35 with
                  | zero =>
                    intro i4_35 T_35 M_35 n_35 I_35 h_q0_35 iv0_35 kKR_35 kKC_35 hk35
                    have := mz_hi i4_35
                    have := kKR_35.1 15 _ _ rfl
                    have := kKR_35.1 16 _ _ rfl
                    have := kKR_35.1 19 _ _ rfl
                    omega
                  | succ k35 ih35 =>
                    intro i4_35 T_35 M_35 n_35 I_35 h_q0_35 iv0_35 kKR_35 kKC_35 hk35
                    refine mv_iload d_TrustDeskModel_days_67 rfl ?_
                    refine mv_aload_n d_TrustDeskModel_days_69 rfl rfl ?_
                    obtain ⟨v37, q36⟩ := tm_atI I_35 h_q0_35 (k := 32) rfl
                    refine tr_getK q36 d_TrustDeskModel_days_70 f_TrustDeskModel_415_13 ?_
                    have := kKR_35.f (k := 32) q36 rfl
                    have := mz_hi i4_35
                    have := mz_hi v37
                    refine mv_icmp_geZ (tgt := 100) (a := i4_35.toInt) (b := v37.toInt) d_TrustDeskModel_days_73 (by decide) rfl rfl (fun b38 => ?_) (fun b38 => ?_)
                    · refine mv_iinc (v := (i3_14 + 1)) (lv' := [(3, .int (i3_14 + 1)), (4, .int i4_35), (2, .int t), (0, .ref o0), (1, .int x1)]) d_TrustDeskModel_days_100 rfl rfl (by decide) rfl ?_
                      refine mv_goto (tgt := 38) d_TrustDeskModel_days_103 (by decide) ?_
                      have b39 : (i3_14 + 1 : Int32).toInt = (i3_14.toInt + 1) := mz_add2 rfl (by decide) (by omega) (by omega)
                      refine mv_locals (lv' := [(3, .int (i3_14 + 1)), (2, .int t), (0, .ref o0), (1, .int x1)]) (by intro q hq; simp only [List.mem_cons, List.not_mem_nil, or_false] at hq; rcases hq with rfl | rfl | rfl | rfl <;> rfl) ?_
                      have b40 : (i3_14 + 1).toInt = i3_14.toInt + 1 := mz_addn 1 1 (by decide) (by have := mz_lo i3_14; omega) (by have := mz_hi i3_14; omega)
                      exact (ih14 (i3_14 + 1) T_35 M_35 n_35 I_35 h_q0_35 (by first | omega | decide | exact fun h9 => absurd (by decide) h9) (by first | omega | decide | exact fun h9 => absurd (by decide) h9) kKR_35 kKC_35 (by omega))
                    · refine mv_aload_n d_TrustDeskModel_days_76 rfl rfl ?_
                      obtain ⟨a42, q41, t_a42⟩ := tm_atR I_35 h_q0_35 (k := 37) rfl
                      refine tr_getK q41 d_TrustDeskModel_days_77 f_TrustDeskModel_79_13 ?_
                      refine mv_iload d_TrustDeskModel_days_80 rfl ?_
                      refine tr_ialdR (o := o0) (k := 37) I_35 q41 t_a42 (by decide) d_TrustDeskModel_days_82 (vp_in_iff.mpr (by omega)) (fun v43 e44 => ?_)
                      have := kKR_35.a (k := 37) rfl (i4_35 : Int32).toNatClampNeg
                      refine mv_iconst (v := (-1)) d_TrustDeskModel_days_83 (by decide) ?_
                      have := mz_hi v43
                      refine mv_icmp_neZ (tgt := 94) (a := v43.toInt) (b := (-1)) d_TrustDeskModel_days_84 (by decide) rfl (by decide) (fun b45 => ?_) (fun b45 => ?_)
                      · refine mv_iinc (v := (i4_35 + 1)) (lv' := [(4, .int (i4_35 + 1)), (3, .int i3_14), (2, .int t), (0, .ref o0), (1, .int x1)]) d_TrustDeskModel_days_94 rfl rfl (by decide) rfl ?_
                        refine mv_goto (tgt := 67) d_TrustDeskModel_days_97 (by decide) ?_
                        have b46 : (i4_35 + 1 : Int32).toInt = (i4_35.toInt + 1) := mz_add2 rfl (by decide) (by omega) (by omega)
                        have b47 : (i4_35 + 1).toInt = i4_35.toInt + 1 := mz_addn 1 1 (by decide) (by have := mz_lo i4_35; omega) (by have := mz_hi i4_35; omega)
                        exact (ih35 (i4_35 + 1) T_35 M_35 n_35 I_35 h_q0_35 (by first | omega | decide | exact fun h9 => absurd (by decide) h9) kKR_35 kKC_35 (by omega))
                      · refine mv_aload_n d_TrustDeskModel_days_87 rfl rfl ?_
                        refine mv_iload d_TrustDeskModel_days_88 rfl ?_
                        refine mv_iload_n d_TrustDeskModel_days_90 rfl rfl ?_
                        obtain ⟨_, b54, -⟩ := I_35.1 _ _ h_q0_35
                        refine mv_callV (kc' := 0) (ks' := 0) (As := [.int i4_35, .int i3_14]) (st9 := [.int i3_14, .int i4_35, .ref o0]) d_TrustDeskModel_days_91 lV_TrustDeskModel_489 b54 rfl (tc_TrustDeskModel_closes_x (d := d) (x9 := x9) (o0 := o0) (x1 := i4_35) (x2 := i3_14) h_q0_35 (by omega) (by omega) kKR_35 kKC_35 I_35.start) rfl (Nat.le_of_ble_eq_true rfl) (Nat.le_of_ble_eq_true rfl) (Nat.le_of_ble_eq_true rfl) (hst := rfl) (fun b48r M49 n50 b48 => ?_)
                        obtain ⟨T51, J52, rfl, R55⟩ := b48
                        have I53 := I_35.call J52 (tm_sub (by decide)) (Or.inl rfl)
                        have t56 := J52.up h_q0_35
                        have K57 : rC M49 o0 44 := kKC_35.same (sA_c I_35 J52 (I_35.up h_o0) (by decide +kernel)) (sF_c I_35 J52 (I_35.up h_o0) (by decide +kernel))
                        have q58 := J52.keep h_q0_35 (by decide) q36
                        have q59 := J52.keep h_q0_35 (by decide) q41
                        have t60 := J52.up t_a42
                        refine mv_iinc (v := (i4_35 + 1)) (lv' := [(4, .int (i4_35 + 1)), (3, .int i3_14), (2, .int t), (0, .ref o0), (1, .int x1)]) d_TrustDeskModel_days_94 rfl rfl (by decide) rfl ?_
                        refine mv_goto (tgt := 67) d_TrustDeskModel_days_97 (by decide) ?_
                        have b61 : (i4_35 + 1 : Int32).toInt = (i4_35.toInt + 1) := mz_add2 rfl (by decide) (by omega) (by omega)
                        have b62 : (i4_35 + 1).toInt = i4_35.toInt + 1 := mz_addn 1 1 (by decide) (by have := mz_lo i4_35; omega) (by have := mz_hi i4_35; omega)
                        exact (ih35 (i4_35 + 1) T51 M49 n50 I53 t56 (by first | omega | decide | exact fun h9 => absurd (by decide) h9) R55 K57 (by omega))
                have : (0 : Int32).toInt = 0 := by decide
                exact mv_less (Nat.zero_le _) (Nat.zero_le _) (L67_35 4294967296 0 T_14 M26 n_14 I27 h_q0_14 (by first | omega | decide | exact fun h9 => absurd (by decide) h9) R30 K33 (by show (2147483647 - (0 : Int) : Int) < _; decide))
              · refine mv_goto (tgt := 100) d_TrustDeskModel_days_61 (by decide) ?_
                refine mv_iinc (v := (i3_14 + 1)) (lv' := [(3, .int (i3_14 + 1)), (2, .int t), (0, .ref o0), (1, .int x1)]) d_TrustDeskModel_days_100 rfl rfl (by decide) rfl ?_
                refine mv_goto (tgt := 38) d_TrustDeskModel_days_103 (by decide) ?_
                have b63 : (i3_14 + 1 : Int32).toInt = (i3_14.toInt + 1) := mz_add2 rfl (by decide) (by omega) (by omega)
                have b64 : (i3_14 + 1).toInt = i3_14.toInt + 1 := mz_addn 1 1 (by decide) (by have := mz_lo i3_14; omega) (by have := mz_hi i3_14; omega)
                exact (ih14 (i3_14 + 1) T_14 M26 n_14 I27 h_q0_14 (by first | omega | decide | exact fun h9 => absurd (by decide) h9) (by first | omega | decide | exact fun h9 => absurd (by decide) h9) R30 K33 (by omega))
        exact mv_less (Nat.zero_le _) (Nat.zero_le _) (L38_14 4294967296 t T0 M2 n0 I3 h_o0 (by first | omega | decide | exact fun h9 => absurd (by decide) h9) (by first | omega | decide | exact fun h9 => absurd (by decide) h9) R6 K9 (by have := mz_lo t; omega))
      · refine mv_iconst (v := (-1)) d_TrustDeskModel_days_29 (by decide) ?_
        exact mv_iret d_TrustDeskModel_days_30 rfl (by first | rfl | decide) ⟨_, I3, _, rfl, R6, (Or.inl ⟨rfl, (by omega), (K5 _ 13 1 _ rfl y_t)⟩), K9⟩
