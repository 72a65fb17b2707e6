abbrev kY_TrustDeskModel_findOver : mj_Y := (⟨"TrustDeskModel", "findOver", "(I)V"⟩, prog_14_method_93_code, 5, (Option.none : Option Jvm.ClassFile.FieldType))
theorem d_TrustDeskModel_findOver_0 : decode kY_TrustDeskModel_findOver.2.1 0 = .ok (.aload_n 0, 1) := by decide +kernel
theorem d_TrustDeskModel_findOver_1 : decode kY_TrustDeskModel_findOver.2.1 1 = .ok (.iload_n 1, 1) := by decide +kernel
theorem d_TrustDeskModel_findOver_2 : decode kY_TrustDeskModel_findOver.2.1 2 = .ok (.putfield 560, 3) := by decide +kernel
theorem p_TrustDeskModel_560_13 : mj_fp "TrustDeskModel" 560 13 67 (kt_TrustDeskModel 67) false := ⟨kR_TrustDeskModel, kF_TrustDeskModel, 72, "TrustDeskModel", kt_TrustDeskModel, rfl, kg_13, by decide, (mj_in1 (List.mem_of_getElem? (i := 1453) (by decide +kernel)) rfl), Or.inl rfl, kto_TrustDeskModel, kn_TrustDeskModel, rfl, rfl, fun h => by cases h⟩
theorem d_TrustDeskModel_findOver_5 : decode kY_TrustDeskModel_findOver.2.1 5 = .ok (.iconst 0, 1) := by decide +kernel
theorem d_TrustDeskModel_findOver_6 : decode kY_TrustDeskModel_findOver.2.1 6 = .ok (.istore_n 2, 1) := by decide +kernel
theorem d_TrustDeskModel_findOver_7 : decode kY_TrustDeskModel_findOver.2.1 7 = .ok (.iload_n 2, 1) := by decide +kernel
theorem d_TrustDeskModel_findOver_8 : decode kY_TrustDeskModel_findOver.2.1 8 = .ok (.aload_n 0, 1) := by decide +kernel
theorem d_TrustDeskModel_findOver_9 : decode kY_TrustDeskModel_findOver.2.1 9 = .ok (.getfield 415, 3) := by decide +kernel
theorem d_TrustDeskModel_findOver_12 : decode kY_TrustDeskModel_findOver.2.1 12 = .ok (.if_icmp .ge 113, 3) := by decide +kernel
theorem d_TrustDeskModel_findOver_125 : decode kY_TrustDeskModel_findOver.2.1 125 = .ok (.return_, 1) := by decide +kernel
theorem d_TrustDeskModel_findOver_15 : decode kY_TrustDeskModel_findOver.2.1 15 = .ok (.iload_n 1, 1) := by decide +kernel
theorem d_TrustDeskModel_findOver_16 : decode kY_TrustDeskModel_findOver.2.1 16 = .ok (.iload_n 2, 1) := by decide +kernel
theorem d_TrustDeskModel_findOver_17 : decode kY_TrustDeskModel_findOver.2.1 17 = .ok (.ishr, 1) := by decide +kernel
theorem d_TrustDeskModel_findOver_18 : decode kY_TrustDeskModel_findOver.2.1 18 = .ok (.iconst 1, 1) := by decide +kernel
theorem d_TrustDeskModel_findOver_19 : decode kY_TrustDeskModel_findOver.2.1 19 = .ok (.iand, 1) := by decide +kernel
theorem d_TrustDeskModel_findOver_20 : decode kY_TrustDeskModel_findOver.2.1 20 = .ok (.ifCond .ne 6, 3) := by decide +kernel
theorem d_TrustDeskModel_findOver_26 : decode kY_TrustDeskModel_findOver.2.1 26 = .ok (.aload_n 0, 1) := by decide +kernel
theorem d_TrustDeskModel_findOver_27 : decode kY_TrustDeskModel_findOver.2.1 27 = .ok (.iload_n 2, 1) := by decide +kernel
theorem d_TrustDeskModel_findOver_28 : decode kY_TrustDeskModel_findOver.2.1 28 = .ok (.aload_n 0, 1) := by decide +kernel
theorem d_TrustDeskModel_findOver_29 : decode kY_TrustDeskModel_findOver.2.1 29 = .ok (.invokevirtual 518, 3) := by decide +kernel
theorem d_TrustDeskModel_findOver_32 : decode kY_TrustDeskModel_findOver.2.1 32 = .ok (.aload_n 0, 1) := by decide +kernel
theorem d_TrustDeskModel_findOver_33 : decode kY_TrustDeskModel_findOver.2.1 33 = .ok (.getfield 164, 3) := by decide +kernel
theorem d_TrustDeskModel_findOver_36 : decode kY_TrustDeskModel_findOver.2.1 36 = .ok (.invokevirtual 459, 3) := by decide +kernel
theorem d_TrustDeskModel_findOver_39 : decode kY_TrustDeskModel_findOver.2.1 39 = .ok (.aload_n 0, 1) := by decide +kernel
theorem d_TrustDeskModel_findOver_40 : decode kY_TrustDeskModel_findOver.2.1 40 = .ok (.getfield 149, 3) := by decide +kernel
theorem f_TrustDeskModel_149_13 : mj_fl "TrustDeskModel" 149 13 63 := ⟨kR_TrustDeskModel, kF_TrustDeskModel, 72, "TrustDeskModel", rfl, kg_13, by decide, (mj_in1 (List.mem_of_getElem? (i := 1449) (by decide +kernel)) rfl), Or.inl rfl⟩
theorem d_TrustDeskModel_findOver_43 : decode kY_TrustDeskModel_findOver.2.1 43 = .ok (.iload_n 2, 1) := by decide +kernel
theorem d_TrustDeskModel_findOver_44 : decode kY_TrustDeskModel_findOver.2.1 44 = .ok (.aload_n 0, 1) := by decide +kernel
theorem d_TrustDeskModel_findOver_45 : decode kY_TrustDeskModel_findOver.2.1 45 = .ok (.iload_n 2, 1) := by decide +kernel
theorem d_TrustDeskModel_findOver_46 : decode kY_TrustDeskModel_findOver.2.1 46 = .ok (.aload_n 0, 1) := by decide +kernel
theorem d_TrustDeskModel_findOver_47 : decode kY_TrustDeskModel_findOver.2.1 47 = .ok (.invokevirtual 518, 3) := by decide +kernel
theorem d_TrustDeskModel_findOver_50 : decode kY_TrustDeskModel_findOver.2.1 50 = .ok (.aload_n 0, 1) := by decide +kernel
theorem d_TrustDeskModel_findOver_51 : decode kY_TrustDeskModel_findOver.2.1 51 = .ok (.getfield 164, 3) := by decide +kernel
theorem d_TrustDeskModel_findOver_54 : decode kY_TrustDeskModel_findOver.2.1 54 = .ok (.invokevirtual 438, 3) := by decide +kernel
theorem d_TrustDeskModel_findOver_57 : decode kY_TrustDeskModel_findOver.2.1 57 = .ok (.i2l, 1) := by decide +kernel
theorem d_TrustDeskModel_findOver_58 : decode kY_TrustDeskModel_findOver.2.1 58 = .ok (.lastore, 1) := by decide +kernel
theorem d_TrustDeskModel_findOver_59 : decode kY_TrustDeskModel_findOver.2.1 59 = .ok (.iconst 0, 1) := by decide +kernel
theorem d_TrustDeskModel_findOver_60 : decode kY_TrustDeskModel_findOver.2.1 60 = .ok (.istore_n 3, 1) := by decide +kernel
theorem d_TrustDeskModel_findOver_61 : decode kY_TrustDeskModel_findOver.2.1 61 = .ok (.iload_n 3, 1) := by decide +kernel
theorem d_TrustDeskModel_findOver_62 : decode kY_TrustDeskModel_findOver.2.1 62 = .ok (.aload_n 0, 1) := by decide +kernel
theorem d_TrustDeskModel_findOver_63 : decode kY_TrustDeskModel_findOver.2.1 63 = .ok (.getfield 98, 3) := by decide +kernel
theorem d_TrustDeskModel_findOver_66 : decode kY_TrustDeskModel_findOver.2.1 66 = .ok (.iload_n 2, 1) := by decide +kernel
theorem d_TrustDeskModel_findOver_67 : decode kY_TrustDeskModel_findOver.2.1 67 = .ok (.iaload, 1) := by decide +kernel
theorem d_TrustDeskModel_findOver_68 : decode kY_TrustDeskModel_findOver.2.1 68 = .ok (.if_icmp .ge 51, 3) := by decide +kernel
theorem d_TrustDeskModel_findOver_119 : decode kY_TrustDeskModel_findOver.2.1 119 = .ok (.iinc 2 1, 3) := by decide +kernel
theorem d_TrustDeskModel_findOver_122 : decode kY_TrustDeskModel_findOver.2.1 122 = .ok (.goto (-115), 3) := by decide +kernel
theorem d_TrustDeskModel_findOver_71 : decode kY_TrustDeskModel_findOver.2.1 71 = .ok (.aload_n 0, 1) := by decide +kernel
theorem d_TrustDeskModel_findOver_72 : decode kY_TrustDeskModel_findOver.2.1 72 = .ok (.getfield 107, 3) := by decide +kernel
theorem d_TrustDeskModel_findOver_75 : decode kY_TrustDeskModel_findOver.2.1 75 = .ok (.bipush 80, 2) := by decide +kernel
theorem d_TrustDeskModel_findOver_77 : decode kY_TrustDeskModel_findOver.2.1 77 = .ok (.iload_n 2, 1) := by decide +kernel
theorem d_TrustDeskModel_findOver_78 : decode kY_TrustDeskModel_findOver.2.1 78 = .ok (.imul, 1) := by decide +kernel
theorem d_TrustDeskModel_findOver_79 : decode kY_TrustDeskModel_findOver.2.1 79 = .ok (.iload_n 3, 1) := by decide +kernel
theorem d_TrustDeskModel_findOver_80 : decode kY_TrustDeskModel_findOver.2.1 80 = .ok (.iadd, 1) := by decide +kernel
theorem d_TrustDeskModel_findOver_81 : decode kY_TrustDeskModel_findOver.2.1 81 = .ok (.iaload, 1) := by decide +kernel
theorem d_TrustDeskModel_findOver_82 : decode kY_TrustDeskModel_findOver.2.1 82 = .ok (.ifCond .eq 6, 3) := by decide +kernel
theorem d_TrustDeskModel_findOver_88 : decode kY_TrustDeskModel_findOver.2.1 88 = .ok (.aload_n 0, 1) := by decide +kernel
theorem d_TrustDeskModel_findOver_89 : decode kY_TrustDeskModel_findOver.2.1 89 = .ok (.iload_n 2, 1) := by decide +kernel
theorem d_TrustDeskModel_findOver_90 : decode kY_TrustDeskModel_findOver.2.1 90 = .ok (.iload_n 3, 1) := by decide +kernel
theorem d_TrustDeskModel_findOver_91 : decode kY_TrustDeskModel_findOver.2.1 91 = .ok (.invokevirtual 463, 3) := by decide +kernel
theorem d_TrustDeskModel_findOver_94 : decode kY_TrustDeskModel_findOver.2.1 94 = .ok (.istore 4, 2) := by decide +kernel
theorem d_TrustDeskModel_findOver_96 : decode kY_TrustDeskModel_findOver.2.1 96 = .ok (.iload 4, 2) := by decide +kernel
theorem d_TrustDeskModel_findOver_98 : decode kY_TrustDeskModel_findOver.2.1 98 = .ok (.ifCond .le 15, 3) := by decide +kernel
theorem d_TrustDeskModel_findOver_113 : decode kY_TrustDeskModel_findOver.2.1 113 = .ok (.iinc 3 1, 3) := by decide +kernel
theorem d_TrustDeskModel_findOver_116 : decode kY_TrustDeskModel_findOver.2.1 116 = .ok (.goto (-55), 3) := by decide +kernel
theorem d_TrustDeskModel_findOver_101 : decode kY_TrustDeskModel_findOver.2.1 101 = .ok (.aload_n 0, 1) := by decide +kernel
theorem d_TrustDeskModel_findOver_102 : decode kY_TrustDeskModel_findOver.2.1 102 = .ok (.getfield 149, 3) := by decide +kernel
theorem d_TrustDeskModel_findOver_105 : decode kY_TrustDeskModel_findOver.2.1 105 = .ok (.iload_n 2, 1) := by decide +kernel
theorem d_TrustDeskModel_findOver_106 : decode kY_TrustDeskModel_findOver.2.1 106 = .ok (.dup2, 1) := by decide +kernel
theorem d_TrustDeskModel_findOver_107 : decode kY_TrustDeskModel_findOver.2.1 107 = .ok (.laload, 1) := by decide +kernel
theorem d_TrustDeskModel_findOver_108 : decode kY_TrustDeskModel_findOver.2.1 108 = .ok (.iload 4, 2) := by decide +kernel
theorem d_TrustDeskModel_findOver_110 : decode kY_TrustDeskModel_findOver.2.1 110 = .ok (.i2l, 1) := by decide +kernel
theorem d_TrustDeskModel_findOver_111 : decode kY_TrustDeskModel_findOver.2.1 111 = .ok (.lsub, 1) := by decide +kernel
theorem d_TrustDeskModel_findOver_112 : decode kY_TrustDeskModel_findOver.2.1 112 = .ok (.lastore, 1) := by decide +kernel
theorem d_TrustDeskModel_findOver_85 : decode kY_TrustDeskModel_findOver.2.1 85 = .ok (.goto 28, 3) := by decide +kernel
theorem d_TrustDeskModel_findOver_23 : decode kY_TrustDeskModel_findOver.2.1 23 = .ok (.goto 96, 3) := by decide +kernel
def w_TrustDeskModel_findOver_x : List Nat := [1331, 1367, 20029, 20030, 20063]
set_option maxHeartbeats 100000000 in theorem tc_TrustDeskModel_findOver_x {g : mj_G} {l : Launch} {d : Nat} {T0 : tm_H} {M0 : mj_M} {n0 x9 : Nat} {o0 : Nat} {x1 : Int32} (h_o0 : T0 o0 = some (0, 13, 0)) (yR : rI M0 o0) (yC : rC M0 o0 44) (I0 : tm_I tm_FT (tm_in w_TrustDeskModel_findOver_x) x9 T0 M0 n0 T0 M0 n0) : mj_Met g l kY_TrustDeskModel_findOver (d + 4) [.ref o0, .int x1] M0 n0 0 0 (tm_Q tm_FT (tm_in w_TrustDeskModel_findOver_x) x9 T0 M0 n0 (fun r _ M => r = none ∧ rI M o0)) := by
  refine mj_enter (by decide) (Nat.le_of_ble_eq_true rfl) ?_
  have K1 : rC M0 o0 44 := yC
  refine mv_aload_n d_TrustDeskModel_findOver_0 rfl rfl ?_
  refine mv_iload_n d_TrustDeskModel_findOver_1 rfl rfl ?_
  refine tr_putR (k := 67) I0 yR h_o0 rfl ⟨_, rfl⟩ (fun _ h => by cases h) rfl (fun lo hi h => by cases h) (Or.inl (by decide)) d_TrustDeskModel_findOver_2 p_TrustDeskModel_560_13 rfl rfl (fun M2 I3 q4 K5 R6 A7 V8 => ?_)
  have K9 : rC M2 o0 44 := K1.same (sA_f A7 (by decide)) (sF_f V8 (by decide))
  refine mv_iconst (v := 0) d_TrustDeskModel_findOver_5 (by decide) ?_
  refine mv_istore_n (lv' := [(2, .int 0), (0, .ref o0), (1, .int x1)]) d_TrustDeskModel_findOver_6 rfl (by decide) rfl ?_
  have L7_10 : ∀ (k : Nat) (i2_10 : Int32) (T_10 : tm_H) (M_10 : mj_M) (n_10 : Nat), tm_I tm_FT (tm_in w_TrustDeskModel_findOver_x) x9 T0 M0 n0 T_10 M_10 n_10 → T_10 o0 = some (0, 13, 0) → 0 ≤ i2_10.toInt → (rI M_10 o0) → (rC M_10 o0 44) → 2147483647 - i2_10.toInt < (k : Int) → mj_V g l kY_TrustDeskModel_findOver (d + 4) 7 [(2, .int i2_10), (0, .ref o0), (1, .int x1)] [] M_10 n_10 0 0 (tm_Q tm_FT (tm_in w_TrustDeskModel_findOver_x) x9 T0 M0 n0 (fun r _ M => r = none ∧ rI M o0)) := by
    intro k10
    induction k10 with
    | zero =>
      intro i2_10 T_10 M_10 n_10 I_10 h_q0_10 iv0_10 kKR_10 kKC_10 hk10
      have := mz_hi i2_10
      have := kKR_10.1 15 _ _ rfl
      have := kKR_10.1 16 _ _ rfl
      have := kKR_10.1 19 _ _ rfl
      omega
    | succ k10 ih10 =>
      intro i2_10 T_10 M_10 n_10 I_10 h_q0_10 iv0_10 kKR_10 kKC_10 hk10
      refine mv_iload_n d_TrustDeskModel_findOver_7 rfl rfl ?_
      refine mv_aload_n d_TrustDeskModel_findOver_8 rfl rfl ?_
      obtain ⟨v12, q11⟩ := tm_atI I_10 h_q0_10 (k := 32) rfl
      refine tr_getK q11 d_TrustDeskModel_findOver_9 f_TrustDeskModel_415_13 ?_
      have := kKR_10.f (k := 32) q11 rfl
      have := mz_hi i2_10
      have := mz_hi v12
      refine mv_icmp_geZ (tgt := 125) (a := i2_10.toInt) (b := v12.toInt) d_TrustDeskModel_findOver_12 (by decide) rfl rfl (fun b13 => ?_) (fun b13 => ?_)
      · exact mv_vret d_TrustDeskModel_findOver_125 rfl ⟨_, I_10, rfl, kKR_10⟩
      · refine mv_iload_n d_TrustDeskModel_findOver_15 rfl rfl ?_
        refine mv_iload_n d_TrustDeskModel_findOver_16 rfl rfl ?_
        refine mv_ishr d_TrustDeskModel_findOver_17 ?_
        refine mv_iconst (v := 1) d_TrustDeskModel_findOver_18 (by decide) ?_
        refine mv_iand d_TrustDeskModel_findOver_19 ?_
        have := mz_hi ((x1 >>> (i2_10 &&& 31)) &&& 1)
        refine mv_if_neZ (tgt := 26) (a := ((x1 >>> (i2_10 &&& 31)) &&& 1).toInt) d_TrustDeskModel_findOver_20 (by decide) rfl (fun b14 => ?_) (fun b14 => ?_)
        · refine mv_aload_n d_TrustDeskModel_findOver_26 rfl rfl ?_
          refine mv_iload_n d_TrustDeskModel_findOver_27 rfl rfl ?_
          refine mv_aload_n d_TrustDeskModel_findOver_28 rfl rfl ?_
          obtain ⟨_, b15, -⟩ := I_10.1 _ _ h_q0_10
          refine mv_callV (kc1 := 0) (ks1 := 0) (kc' := 0) (ks' := 0) (As := []) (st9 := [.ref o0, .int i2_10, .ref o0]) d_TrustDeskModel_findOver_29 lV_TrustDeskModel_518 b15 rfl (mj_enter (by decide) (Nat.le_of_ble_eq_true rfl) ?_) rfl (Nat.le_of_ble_eq_true rfl) (Nat.le_of_ble_eq_true rfl) (Nat.le_of_ble_eq_true rfl) (hst := rfl) (fun _ _ _ h => h)
          refine mv_aload_n d_TrustDeskModel_year_0 rfl rfl ?_
          obtain ⟨v17, q16⟩ := tm_atI I_10 h_q0_10 (k := 1) rfl
          refine tr_getK q16 d_TrustDeskModel_year_1 f_TrustDeskModel_164_13 ?_
          have := kKR_10.f (k := 1) q16 rfl
          refine mv_sipush (v := 360) d_TrustDeskModel_year_4 (by decide) ?_
          have : (v17 / 360 : Int32).toInt = v17.toInt / 360 := mz_div (by decide) (by decide) (by omega)
          refine mv_idiv d_TrustDeskModel_year_7 (by decide) ?_
          refine mv_iret d_TrustDeskModel_year_8 rfl (by first | rfl | decide) ?_
          refine mv_aload_n d_TrustDeskModel_findOver_32 rfl rfl ?_
          refine tr_getK (k := 1) q16 d_TrustDeskModel_findOver_33 f_TrustDeskModel_164_13 ?_
          obtain ⟨_, b24, -⟩ := I_10.1 _ _ h_q0_10
          refine mv_callV (kc' := 0) (ks' := 0) (As := [.int i2_10, .int (v17 / 360), .int v17]) (st9 := [.int v17, .int (v17 / 360), .int i2_10, .ref o0]) d_TrustDeskModel_findOver_36 lV_TrustDeskModel_459 b24 rfl (tc_TrustDeskModel_names_x (d := (d + 1)) (x9 := x9) (o0 := o0) (x1 := i2_10) (x2 := (v17 / 360)) (x3 := v17) h_q0_10 (by omega) kKR_10 I_10.start) rfl (Nat.le_of_ble_eq_true rfl) (Nat.le_of_ble_eq_true rfl) (Nat.le_of_ble_eq_true rfl) (hst := rfl) (fun b18r M19 n20 b18 => ?_)
          obtain ⟨T21, J22, rfl, R25⟩ := b18
          have I23 := I_10.call J22 (tm_sub (by decide)) (Or.inl rfl)
          have t26 := J22.up h_q0_10
          have K27 : rC M19 o0 44 := kKC_10.same (sA_c I_10 J22 (I_10.up h_o0) (by decide +kernel)) (sF_c I_10 J22 (I_10.up h_o0) (by decide +kernel))
          have q28 := J22.keep h_q0_10 (by decide) q11
          have q29 := J22.keep h_q0_10 (by decide) q16
          refine mv_aload_n d_TrustDeskModel_findOver_39 rfl rfl ?_
          obtain ⟨a31, q30, t_a31⟩ := tm_atR I23 t26 (k := 63) rfl
          refine tr_getK q30 d_TrustDeskModel_findOver_40 f_TrustDeskModel_149_13 ?_
          refine mv_iload_n d_TrustDeskModel_findOver_43 rfl rfl ?_
          refine mv_aload_n d_TrustDeskModel_findOver_44 rfl rfl ?_
          refine mv_iload_n d_TrustDeskModel_findOver_45 rfl rfl ?_
          refine mv_aload_n d_TrustDeskModel_findOver_46 rfl rfl ?_
          obtain ⟨_, b32, -⟩ := I23.1 _ _ t26
          refine mv_callV (kc1 := 0) (ks1 := 0) (kc' := 0) (ks' := 0) (As := []) (st9 := [.ref o0, .int i2_10, .ref o0, .int i2_10, .ref a31]) d_TrustDeskModel_findOver_47 lV_TrustDeskModel_518 b32 rfl (mj_enter (by decide) (Nat.le_of_ble_eq_true rfl) ?_) rfl (Nat.le_of_ble_eq_true rfl) (Nat.le_of_ble_eq_true rfl) (Nat.le_of_ble_eq_true rfl) (hst := rfl) (fun _ _ _ h => h)
          refine mv_aload_n d_TrustDeskModel_year_0 rfl rfl ?_
          refine tr_getK (k := 1) q29 d_TrustDeskModel_year_1 f_TrustDeskModel_164_13 ?_
          refine mv_sipush (v := 360) d_TrustDeskModel_year_4 (by decide) ?_
          have : (v17 / 360 : Int32).toInt = v17.toInt / 360 := mz_div (by decide) (by decide) (by omega)
          refine mv_idiv d_TrustDeskModel_year_7 (by decide) ?_
          refine mv_iret d_TrustDeskModel_year_8 rfl (by first | rfl | decide) ?_
          refine mv_aload_n d_TrustDeskModel_findOver_50 rfl rfl ?_
          refine tr_getK (k := 1) q29 d_TrustDeskModel_findOver_51 f_TrustDeskModel_164_13 ?_
          obtain ⟨_, b39, -⟩ := I23.1 _ _ t26
          refine mv_callV (kc' := 0) (ks' := 0) (As := [.int i2_10, .int (v17 / 360), .int v17]) (st9 := [.int v17, .int (v17 / 360), .int i2_10, .ref o0, .int i2_10, .ref a31]) d_TrustDeskModel_findOver_54 lV_TrustDeskModel_438 b39 rfl (tc_TrustDeskModel_incomeOf_x (d := (d + 2)) (x9 := x9) (o0 := o0) (x1 := i2_10) (x2 := (v17 / 360)) (x3 := v17) t26 (by omega) R25 I23.start) rfl (Nat.le_of_ble_eq_true rfl) (Nat.le_of_ble_eq_true rfl) (Nat.le_of_ble_eq_true rfl) (hst := rfl) (fun b33r M34 n35 b33 => ?_)
          obtain ⟨T36, J37, v40, rfl, R41, f42⟩ := b33
          have I38 := I23.call J37 (tm_sub (by decide)) (Or.inl rfl)
          have t43 := J37.up t26
          have t44 := J37.up t_a31
          have K45 : rC M34 o0 44 := K27.same (sA_c I23 J37 (I23.up h_o0) (by decide +kernel)) (sF_c I23 J37 (I23.up h_o0) (by decide +kernel))
          have q46 := J37.keep t26 (by decide) q28
          have q47 := J37.keep t26 (by decide) q29
          have q48 := J37.keep t26 (by decide) q30
          refine mv_i2l (v := v40.toInt64) d_TrustDeskModel_findOver_57 rfl ?_
          refine tr_lastR (k := 63) I38 R41 (I38.up h_o0) q48 t44 (by decide) (by decide) (fun lo hi h => by cases h) (Or.inl (by decide)) d_TrustDeskModel_findOver_58 (vp_in_iff.mpr (by omega)) (fun M49 I50 K51 R52 E53 A54 V55 => ?_)
          have K56 : rC M49 o0 44 := K45.same (sA_a A54 (by decide +kernel)) (sF_a V55)
          refine mv_iconst (v := 0) d_TrustDeskModel_findOver_59 (by decide) ?_
          refine mv_istore_n (lv' := [(3, .int 0), (2, .int i2_10), (0, .ref o0), (1, .int x1)]) d_TrustDeskModel_findOver_60 rfl (by decide) rfl ?_
          have L61_57 : ∀ (k : Nat) (i3_57 : Int32) (T_57 : tm_H) (M_57 : mj_M) (n_57 : Nat), tm_I tm_FT (tm_in w_TrustDeskModel_findOver_x) x9 T0 M0 n0 T_57 M_57 n_57 → T_57 o0 = some (0, 13, 0) → 0 ≤ i3_57.toInt → (rI M_57 o0) → (rC M_57 o0 44) → 2147483647 - i3_57.toInt < (k : Int) → mj_V g l kY_TrustDeskModel_findOver (d + 4) 61 [(3, .int i3_57), (2, .int i2_10), (0, .ref o0), (1, .int x1)] [] M_57 n_57 0 0 (tm_Q tm_FT (tm_in w_TrustDeskModel_findOver_x) x9 T0 M0 n0 (fun r _ M => r = none ∧ rI M o0)) := by
            intro k57
            induction k57 with
            | zero =>
              intro i3_57 T_57 M_57 n_57 I_57 h_q0_57 iv0_57 kKR_57 kKC_57 hk57
              have := mz_hi i3_57
              have := kKR_57.1 15 _ _ rfl
              have := kKR_57.1 16 _ _ rfl
              have := kKR_57.1 19 _ _ rfl
              omega
            | succ k57 ih57 =>
              intro i3_57 T_57 M_57 n_57 I_57 h_q0_57 iv0_57 kKR_57 kKC_57 hk57
              refine mv_iload_n d_TrustDeskModel_findOver_61 rfl rfl ?_
              refine mv_aload_n d_TrustDeskModel_findOver_62 rfl rfl ?_
              obtain ⟨a59, q58, t_a59⟩ := tm_atR I_57 h_q0_57 (k := 43) rfl
              refine tr_getK q58 d_TrustDeskModel_findOver_63 f_TrustDeskModel_98_13 ?_
              refine mv_iload_n d_TrustDeskModel_findOver_66 rfl rfl ?_
              refine tr_ialdR (o := o0) (k := 43) I_57 q58 t_a59 (by decide) d_TrustDeskModel_findOver_67 (vp_in_iff.mpr (by omega)) (fun v60 e61 => ?_)
              have := kKR_57.a (k := 43) rfl (i2_10 : Int32).toNatClampNeg
              have := mz_hi i3_57
              have := mz_hi v60
              refine mv_icmp_geZ (tgt := 119) (a := i3_57.toInt) (b := v60.toInt) d_TrustDeskModel_findOver_68 (by decide) rfl rfl (fun b62 => ?_) (fun b62 => ?_)
              · refine mv_iinc (v := (i2_10 + 1)) (lv' := [(2, .int (i2_10 + 1)), (3, .int i3_57), (0, .ref o0), (1, .int x1)]) d_TrustDeskModel_findOver_119 rfl rfl (by decide) rfl ?_
                refine mv_goto (tgt := 7) d_TrustDeskModel_findOver_122 (by decide) ?_
                have b63 : (i2_10 + 1 : Int32).toInt = (i2_10.toInt + 1) := mz_add2 rfl (by decide) (by omega) (by omega)
                refine mv_locals (lv' := [(2, .int (i2_10 + 1)), (0, .ref o0), (1, .int x1)]) (by intro q hq; simp only [List.mem_cons, List.not_mem_nil, or_false] at hq; rcases hq with rfl | rfl | rfl <;> rfl) ?_
                have b64 : (i2_10 + 1).toInt = i2_10.toInt + 1 := mz_addn 1 1 (by decide) (by have := mz_lo i2_10; omega) (by have := mz_hi i2_10; omega)
                exact (ih10 (i2_10 + 1) T_57 M_57 n_57 I_57 h_q0_57 (by first | omega | decide | exact fun h9 => absurd (by decide) h9) kKR_57 kKC_57 (by omega))
              · refine mv_aload_n d_TrustDeskModel_findOver_71 rfl rfl ?_
                obtain ⟨a66, q65, t_a66⟩ := tm_atR I_57 h_q0_57 (k := 46) rfl
                refine tr_getK q65 d_TrustDeskModel_findOver_72 f_TrustDeskModel_107_13 ?_
                refine mv_bipush (v := 80) d_TrustDeskModel_findOver_75 (by decide) ?_
                refine mv_iload_n d_TrustDeskModel_findOver_77 rfl rfl ?_
                refine mv_imul d_TrustDeskModel_findOver_78 ?_
                refine mv_iload_n d_TrustDeskModel_findOver_79 rfl rfl ?_
                refine mv_iadd d_TrustDeskModel_findOver_80 ?_
                have b67 : (80 * i2_10 : Int32).toInt = (80 * i2_10.toInt) := mz_mul2 (by decide) rfl (by omega) (by omega)
                have b68 : ((80 * i2_10) + i3_57 : Int32).toInt = ((80 * i2_10.toInt) + i3_57.toInt) := mz_add2 b67 rfl (by omega) (by omega)
                refine tr_ialdR (o := o0) (k := 46) I_57 q65 t_a66 (by decide) d_TrustDeskModel_findOver_81 (vp_in_iff.mpr (by omega)) (fun v69 e70 => ?_)
                have := mz_hi v69
                refine mv_if_eqZ (tgt := 88) (a := v69.toInt) d_TrustDeskModel_findOver_82 (by decide) rfl (fun b71 => ?_) (fun b71 => ?_)
                · refine mv_aload_n d_TrustDeskModel_findOver_88 rfl rfl ?_
                  refine mv_iload_n d_TrustDeskModel_findOver_89 rfl rfl ?_
                  refine mv_iload_n d_TrustDeskModel_findOver_90 rfl rfl ?_
                  obtain ⟨_, b78, -⟩ := I_57.1 _ _ h_q0_57
                  refine mv_callV (kc' := 0) (ks' := 0) (As := [.int i2_10, .int i3_57]) (st9 := [.int i3_57, .int i2_10, .ref o0]) d_TrustDeskModel_findOver_91 lV_TrustDeskModel_463 b78 rfl (tc_TrustDeskModel_asks_x (d := d) (x9 := x9) (o0 := o0) (x1 := i2_10) (x2 := i3_57) h_q0_57 (by omega) kKR_57 kKC_57 (by omega) I_57.start) rfl (Nat.le_of_ble_eq_true rfl) (Nat.le_of_ble_eq_true rfl) (Nat.le_of_ble_eq_true rfl) (hst := rfl) (fun b72r M73 n74 b72 => ?_)
                  obtain ⟨T75, J76, v79, rfl, R80, f81⟩ := b72
                  have I77 := I_57.call J76 (tm_sub (by decide)) (Or.inl rfl)
                  have t82 := J76.up h_q0_57
                  have z83 := (ra_call I_57 J76 (I_57.up h_o0) (k := 43) rfl rfl rfl i2_10.toNatClampNeg)
                  have K84 : rC M73 o0 44 := kKC_57.same (sA_c I_57 J76 (I_57.up h_o0) (by decide +kernel)) (sF_c I_57 J76 (I_57.up h_o0) (by decide +kernel))
                  have q85 := J76.keep h_q0_57 (by decide) q58
                  have t86 := J76.up t_a59
                  have q87 := J76.keep h_q0_57 (by decide) q65
                  have t88 := J76.up t_a66
                  refine mv_istore (lv' := [(4, .int v79), (3, .int i3_57), (2, .int i2_10), (0, .ref o0), (1, .int x1)]) d_TrustDeskModel_findOver_94 (by decide) rfl ?_
                  refine mv_iload d_TrustDeskModel_findOver_96 rfl ?_
                  have := mz_hi v79
                  refine mv_if_leZ (tgt := 113) (a := v79.toInt) d_TrustDeskModel_findOver_98 (by decide) rfl (fun b89 => ?_) (fun b89 => ?_)
                  · refine mv_iinc (v := (i3_57 + 1)) (lv' := [(3, .int (i3_57 + 1)), (4, .int v79), (2, .int i2_10), (0, .ref o0), (1, .int x1)]) d_TrustDeskModel_findOver_113 rfl rfl (by decide) rfl ?_
                    refine mv_goto (tgt := 61) d_TrustDeskModel_findOver_116 (by decide) ?_
                    have b90 : (i3_57 + 1 : Int32).toInt = (i3_57.toInt + 1) := mz_add2 rfl (by decide) (by omega) (by omega)
                    refine mv_locals (lv' := [(3, .int (i3_57 + 1)), (2, .int i2_10), (0, .ref o0), (1, .int x1)]) (by intro q hq; simp only [List.mem_cons, List.not_mem_nil, or_false] at hq; rcases hq with rfl | rfl | rfl | rfl <;> rfl) ?_
                    have b91 : (i3_57 + 1).toInt = i3_57.toInt + 1 := mz_addn 1 1 (by decide) (by have := mz_lo i3_57; omega) (by have := mz_hi i3_57; omega)
                    exact (ih57 (i3_57 + 1) T75 M73 n74 I77 t82 (by first | omega | decide | exact fun h9 => absurd (by decide) h9) R80 K84 (by omega))
                  · refine mv_aload_n d_TrustDeskModel_findOver_101 rfl rfl ?_
                    obtain ⟨a93, q92, t_a93⟩ := tm_atR I77 t82 (k := 63) rfl
                    refine tr_getK q92 d_TrustDeskModel_findOver_102 f_TrustDeskModel_149_13 ?_
                    refine mv_iload_n d_TrustDeskModel_findOver_105 rfl rfl ?_
                    refine mv_dup2_11 d_TrustDeskModel_findOver_106 rfl rfl ?_
                    refine tr_laldR (o := o0) (k := 63) I77 q92 t_a93 (by decide) d_TrustDeskModel_findOver_107 (vp_in_iff.mpr (by omega)) (fun v94 e95 => ?_)
                    refine mv_iload d_TrustDeskModel_findOver_108 rfl ?_
                    refine mv_i2l (v := v79.toInt64) d_TrustDeskModel_findOver_110 rfl ?_
                    refine mv_lsub d_TrustDeskModel_findOver_111 ?_
                    refine tr_lastR (k := 63) I77 R80 (I77.up h_o0) q92 t_a93 (by decide) (by decide) (fun lo hi h => by cases h) (Or.inl (by decide)) d_TrustDeskModel_findOver_112 (vp_in_iff.mpr (by omega)) (fun M96 I97 K98 R99 E100 A101 V102 => ?_)
                    have z103 := (A101 43 (by decide) rfl i2_10.toNatClampNeg).trans z83
                    have K104 : rC M96 o0 44 := K84.same (sA_a A101 (by decide +kernel)) (sF_a V102)
                    clear z83
                    refine mv_iinc (v := (i3_57 + 1)) (lv' := [(3, .int (i3_57 + 1)), (4, .int v79), (2, .int i2_10), (0, .ref o0), (1, .int x1)]) d_TrustDeskModel_findOver_113 rfl rfl (by decide) rfl ?_
                    refine mv_goto (tgt := 61) d_TrustDeskModel_findOver_116 (by decide) ?_
                    have b105 : (i3_57 + 1 : Int32).toInt = (i3_57.toInt + 1) := mz_add2 rfl (by decide) (by omega) (by omega)
                    refine mv_locals (lv' := [(3, .int (i3_57 + 1)), (2, .int i2_10), (0, .ref o0), (1, .int x1)]) (by intro q hq; simp only [List.mem_cons, List.not_mem_nil, or_false] at hq; rcases hq with rfl | rfl | rfl | rfl <;> rfl) ?_
                    have b106 : (i3_57 + 1).toInt = i3_57.toInt + 1 := mz_addn 1 1 (by decide) (by have := mz_lo i3_57; omega) (by have := mz_hi i3_57; omega)
                    exact (ih57 (i3_57 + 1) T75 M96 n74 I97 t82 (by first | omega | decide | exact fun h9 => absurd (by decide) h9) R99 K104 (by omega))
                · refine mv_goto (tgt := 113) d_TrustDeskModel_findOver_85 (by decide) ?_
                  refine mv_iinc (v := (i3_57 + 1)) (lv' := [(3, .int (i3_57 + 1)), (2, .int i2_10), (0, .ref o0), (1, .int x1)]) d_TrustDeskModel_findOver_113 rfl rfl (by decide) rfl ?_
                  refine mv_goto (tgt := 61) d_TrustDeskModel_findOver_116 (by decide) ?_
                  have b107 : (i3_57 + 1 : Int32).toInt = (i3_57.toInt + 1) := mz_add2 rfl (by decide) (by omega) (by omega)
                  have b108 : (i3_57 + 1).toInt = i3_57.toInt + 1 := mz_addn 1 1 (by decide) (by have := mz_lo i3_57; omega) (by have := mz_hi i3_57; omega)
                  exact (ih57 (i3_57 + 1) T_57 M_57 n_57 I_57 h_q0_57 (by first | omega | decide | exact fun h9 => absurd (by decide) h9) kKR_57 kKC_57 (by omega))
          have : (0 : Int32).toInt = 0 := by decide
          exact mv_less (Nat.zero_le _) (Nat.zero_le _) (L61_57 4294967296 0 T36 M49 n35 I50 t43 (by first | omega | decide | exact fun h9 => absurd (by decide) h9) R52 K56 (by show (2147483647 - (0 : Int) : Int) < _; decide))
        · refine mv_goto (tgt := 119) d_TrustDeskModel_findOver_23 (by decide) ?_
          refine mv_iinc (v := (i2_10 + 1)) (lv' := [(2, .int (i2_10 + 1)), (0, .ref o0), (1, .int x1)]) d_TrustDeskModel_findOver_119 rfl rfl (by decide) rfl ?_
          refine mv_goto (tgt := 7) d_TrustDeskModel_findOver_122 (by decide) ?_
          have b109 : (i2_10 + 1 : Int32).toInt = (i2_10.toInt + 1) := mz_add2 rfl (by decide) (by omega) (by omega)
          have b110 : (i2_10 + 1).toInt = i2_10.toInt + 1 := mz_addn 1 1 (by decide) (by have := mz_lo i2_10; omega) (by have := mz_hi i2_10; omega)
          exact (ih10 (i2_10 + 1) T_10 M_10 n_10 I_10 h_q0_10 (by first | omega | decide | exact fun h9 => absurd (by decide) h9) kKR_10 kKC_10 (by omega))
  have : (0 : Int32).toInt = 0 := by decide
  exact mv_less (Nat.zero_le _) (Nat.zero_le _) (L7_10 4294967296 0 T0 M2 n0 I3 h_o0 (by first | omega | decide | exact fun h9 => absurd (by decide) h9) R6 K9 (by show (2147483647 - (0 : Int) : Int) < _; decide))
abbrev kY_TrustDeskModel_areAsked : mj_Y := (⟨"TrustDeskModel", "areAsked", "(I)Z"⟩, prog_14_method_92_code, 4, (Option.some Jvm.ClassFile.FieldType.boolean))
theorem d_TrustDeskModel_areAsked_0 : decode kY_TrustDeskModel_areAsked.2.1 0 = .ok (.iconst 0, 1) := by decide +kernel
theorem d_TrustDeskModel_areAsked_1 : decode kY_TrustDeskModel_areAsked.2.1 1 = .ok (.istore_n 2, 1) := by decide +kernel
theorem d_TrustDeskModel_areAsked_2 : decode kY_TrustDeskModel_areAsked.2.1 2 = .ok (.iconst 0, 1) := by decide +kernel
theorem d_TrustDeskModel_areAsked_3 : decode kY_TrustDeskModel_areAsked.2.1 3 = .ok (.istore_n 3, 1) := by decide +kernel
theorem d_TrustDeskModel_areAsked_4 : decode kY_TrustDeskModel_areAsked.2.1 4 = .ok (.iload_n 3, 1) := by decide +kernel
theorem d_TrustDeskModel_areAsked_5 : decode kY_TrustDeskModel_areAsked.2.1 5 = .ok (.bipush 12, 2) := by decide +kernel
theorem d_TrustDeskModel_areAsked_7 : decode kY_TrustDeskModel_areAsked.2.1 7 = .ok (.if_icmp .ge 33, 3) := by decide +kernel
theorem d_TrustDeskModel_areAsked_40 : decode kY_TrustDeskModel_areAsked.2.1 40 = .ok (.iload_n 1, 1) := by decide +kernel
theorem d_TrustDeskModel_areAsked_41 : decode kY_TrustDeskModel_areAsked.2.1 41 = .ok (.ifCond .le 20, 3) := by decide +kernel
theorem d_TrustDeskModel_areAsked_61 : decode kY_TrustDeskModel_areAsked.2.1 61 = .ok (.iconst 0, 1) := by decide +kernel
theorem d_TrustDeskModel_areAsked_62 : decode kY_TrustDeskModel_areAsked.2.1 62 = .ok (.ireturn, 1) := by decide +kernel
theorem d_TrustDeskModel_areAsked_44 : decode kY_TrustDeskModel_areAsked.2.1 44 = .ok (.iload_n 1, 1) := by decide +kernel
theorem d_TrustDeskModel_areAsked_45 : decode kY_TrustDeskModel_areAsked.2.1 45 = .ok (.bipush 12, 2) := by decide +kernel
theorem d_TrustDeskModel_areAsked_47 : decode kY_TrustDeskModel_areAsked.2.1 47 = .ok (.ishr, 1) := by decide +kernel
theorem d_TrustDeskModel_areAsked_48 : decode kY_TrustDeskModel_areAsked.2.1 48 = .ok (.ifCond .ne 13, 3) := by decide +kernel
theorem d_TrustDeskModel_areAsked_51 : decode kY_TrustDeskModel_areAsked.2.1 51 = .ok (.iload_n 2, 1) := by decide +kernel
theorem d_TrustDeskModel_areAsked_52 : decode kY_TrustDeskModel_areAsked.2.1 52 = .ok (.bipush 8, 2) := by decide +kernel
theorem d_TrustDeskModel_areAsked_54 : decode kY_TrustDeskModel_areAsked.2.1 54 = .ok (.if_icmp .gt 7, 3) := by decide +kernel
theorem d_TrustDeskModel_areAsked_57 : decode kY_TrustDeskModel_areAsked.2.1 57 = .ok (.iconst 1, 1) := by decide +kernel
theorem d_TrustDeskModel_areAsked_58 : decode kY_TrustDeskModel_areAsked.2.1 58 = .ok (.goto 4, 3) := by decide +kernel
theorem d_TrustDeskModel_areAsked_10 : decode kY_TrustDeskModel_areAsked.2.1 10 = .ok (.iload_n 1, 1) := by decide +kernel
theorem d_TrustDeskModel_areAsked_11 : decode kY_TrustDeskModel_areAsked.2.1 11 = .ok (.iload_n 3, 1) := by decide +kernel
theorem d_TrustDeskModel_areAsked_12 : decode kY_TrustDeskModel_areAsked.2.1 12 = .ok (.ishr, 1) := by decide +kernel
theorem d_TrustDeskModel_areAsked_13 : decode kY_TrustDeskModel_areAsked.2.1 13 = .ok (.iconst 1, 1) := by decide +kernel
theorem d_TrustDeskModel_areAsked_14 : decode kY_TrustDeskModel_areAsked.2.1 14 = .ok (.iand, 1) := by decide +kernel
theorem d_TrustDeskModel_areAsked_15 : decode kY_TrustDeskModel_areAsked.2.1 15 = .ok (.ifCond .ne 6, 3) := by decide +kernel
theorem d_TrustDeskModel_areAsked_21 : decode kY_TrustDeskModel_areAsked.2.1 21 = .ok (.aload_n 0, 1) := by decide +kernel
theorem d_TrustDeskModel_areAsked_22 : decode kY_TrustDeskModel_areAsked.2.1 22 = .ok (.iload_n 3, 1) := by decide +kernel
theorem d_TrustDeskModel_areAsked_23 : decode kY_TrustDeskModel_areAsked.2.1 23 = .ok (.invokevirtual 492, 3) := by decide +kernel
theorem d_TrustDeskModel_areAsked_26 : decode kY_TrustDeskModel_areAsked.2.1 26 = .ok (.ifCond .ne 5, 3) := by decide +kernel
theorem d_TrustDeskModel_areAsked_29 : decode kY_TrustDeskModel_areAsked.2.1 29 = .ok (.iconst 0, 1) := by decide +kernel
theorem d_TrustDeskModel_areAsked_30 : decode kY_TrustDeskModel_areAsked.2.1 30 = .ok (.ireturn, 1) := by decide +kernel
theorem d_TrustDeskModel_areAsked_31 : decode kY_TrustDeskModel_areAsked.2.1 31 = .ok (.iinc 2 1, 3) := by decide +kernel
theorem d_TrustDeskModel_areAsked_34 : decode kY_TrustDeskModel_areAsked.2.1 34 = .ok (.iinc 3 1, 3) := by decide +kernel
theorem d_TrustDeskModel_areAsked_37 : decode kY_TrustDeskModel_areAsked.2.1 37 = .ok (.goto (-33), 3) := by decide +kernel
theorem d_TrustDeskModel_areAsked_18 : decode kY_TrustDeskModel_areAsked.2.1 18 = .ok (.goto 16, 3) := by decide +kernel
def w_TrustDeskModel_areAsked_x : List Nat := []
set_option maxHeartbeats 100000000 in theorem tc_TrustDeskModel_areAsked_x {g : mj_G} {l : Launch} {d : Nat} {T0 : tm_H} {M0 : mj_M} {n0 x9 : Nat} {o0 : Nat} {x1 : Int32} (h_o0 : T0 o0 = some (0, 13, 0)) (yR : rI M0 o0) (I0 : tm_I tm_FT (tm_in w_TrustDeskModel_areAsked_x) x9 T0 M0 n0 T0 M0 n0) : mj_Met g l kY_TrustDeskModel_areAsked (d + 2) [.ref o0, .int x1] M0 n0 0 0 (tm_Q tm_FT (tm_in w_TrustDeskModel_areAsked_x) x9 T0 M0 n0 (fun r _ M => ∃ v : Int32, r = some (.int v) ∧ 0 ≤ v.toInt ∧ v.toInt ≤ 1 ∧ rI M o0)) := by
  refine mj_enter (by decide) (Nat.le_of_ble_eq_true rfl) ?_
  refine mv_iconst (v := 0) d_TrustDeskModel_areAsked_0 (by decide) ?_
  refine mv_istore_n (lv' := [(2, .int 0), (0, .ref o0), (1, .int x1)]) d_TrustDeskModel_areAsked_1 rfl (by decide) rfl ?_
  refine mv_iconst (v := 0) d_TrustDeskModel_areAsked_2 (by decide) ?_
  refine mv_istore_n (lv' := [(3, .int 0), (2, .int 0), (0, .ref o0), (1, .int x1)]) d_TrustDeskModel_areAsked_3 rfl (by decide) rfl ?_
  have L4_1 : ∀ (k : Nat) (i3_1 : Int32) (i2_1 : Int32) (T_1 : tm_H) (M_1 : mj_M) (n_1 : Nat), tm_I tm_FT (tm_in w_TrustDeskModel_areAsked_x) x9 T0 M0 n0 T_1 M_1 n_1 → T_1 o0 = some (0, 13, 0) → 0 ≤ i3_1.toInt → (rI M_1 o0) → 2147483647 - i3_1.toInt < (k : Int) → mj_V g l kY_TrustDeskModel_areAsked (d + 2) 4 [(3, .int i3_1), (2, .int i2_1), (0, .ref o0), (1, .int x1)] [] M_1 n_1 0 0 (tm_Q tm_FT (tm_in w_TrustDeskModel_areAsked_x) x9 T0 M0 n0 (fun r _ M => ∃ v : Int32, r = some (.int v) ∧ 0 ≤ v.toInt ∧ v.toInt ≤ 1 ∧ rI M o0)) := by
    intro k1
    induction k1 with
    | zero =>
      intro i3_1 i2_1 T_1 M_1 n_1 I_1 h_q0_1 iv0_1 kKR_1 hk1
      have := mz_hi i3_1
      have := kKR_1.1 15 _ _ rfl
      have := kKR_1.1 16 _ _ rfl
      have := kKR_1.1 19 _ _ rfl
      omega
    | succ k1 ih1 =>
      intro i3_1 i2_1 T_1 M_1 n_1 I_1 h_q0_1 iv0_1 kKR_1 hk1
      refine mv_iload_n d_TrustDeskModel_areAsked_4 rfl rfl ?_
      refine mv_bipush (v := 12) d_TrustDeskModel_areAsked_5 (by decide) ?_
      have := mz_hi i3_1
      refine mv_icmp_geZ (tgt := 40) (a := i3_1.toInt) (b := 12) d_TrustDeskModel_areAsked_7 (by decide) rfl (by decide) (fun b2 => ?_) (fun b2 => ?_)
      · refine mv_iload_n d_TrustDeskModel_areAsked_40 rfl rfl ?_
        have := mz_hi x1
        refine mv_if_leZ (tgt := 61) (a := x1.toInt) d_TrustDeskModel_areAsked_41 (by decide) rfl (fun b3 => ?_) (fun b3 => ?_)
        · refine mv_iconst (v := 0) d_TrustDeskModel_areAsked_61 (by decide) ?_
          exact mv_iret d_TrustDeskModel_areAsked_62 rfl (by decide) ⟨_, I_1, _, rfl, by decide, by decide, kKR_1⟩
        · refine mv_iload_n d_TrustDeskModel_areAsked_44 rfl rfl ?_
          refine mv_bipush (v := 12) d_TrustDeskModel_areAsked_45 (by decide) ?_
          refine mv_ishr d_TrustDeskModel_areAsked_47 ?_
          have := mz_hi (x1 >>> (12 &&& 31))
          refine mv_if_neZ (tgt := 61) (a := (x1 >>> (12 &&& 31)).toInt) d_TrustDeskModel_areAsked_48 (by decide) rfl (fun b4 => ?_) (fun b4 => ?_)
          · refine mv_iconst (v := 0) d_TrustDeskModel_areAsked_61 (by decide) ?_
            exact mv_iret d_TrustDeskModel_areAsked_62 rfl (by decide) ⟨_, I_1, _, rfl, by decide, by decide, kKR_1⟩
          · refine mv_iload_n d_TrustDeskModel_areAsked_51 rfl rfl ?_
            refine mv_bipush (v := 8) d_TrustDeskModel_areAsked_52 (by decide) ?_
            have := mz_hi i2_1
            refine mv_icmp_gtZ (tgt := 61) (a := i2_1.toInt) (b := 8) d_TrustDeskModel_areAsked_54 (by decide) rfl (by decide) (fun b5 => ?_) (fun b5 => ?_)
            · refine mv_iconst (v := 0) d_TrustDeskModel_areAsked_61 (by decide) ?_
              exact mv_iret d_TrustDeskModel_areAsked_62 rfl (by decide) ⟨_, I_1, _, rfl, by decide, by decide, kKR_1⟩
            · refine mv_iconst (v := 1) d_TrustDeskModel_areAsked_57 (by decide) ?_
              refine mv_goto (tgt := 62) d_TrustDeskModel_areAsked_58 (by decide) ?_
              exact mv_iret d_TrustDeskModel_areAsked_62 rfl (by decide) ⟨_, I_1, _, rfl, by decide, by decide, kKR_1⟩
      · refine mv_iload_n d_TrustDeskModel_areAsked_10 rfl rfl ?_
        refine mv_iload_n d_TrustDeskModel_areAsked_11 rfl rfl ?_
        refine mv_ishr d_TrustDeskModel_areAsked_12 ?_
        refine mv_iconst (v := 1) d_TrustDeskModel_areAsked_13 (by decide) ?_
        refine mv_iand d_TrustDeskModel_areAsked_14 ?_
        have := mz_hi ((x1 >>> (i3_1 &&& 31)) &&& 1)
        refine mv_if_neZ (tgt := 21) (a := ((x1 >>> (i3_1 &&& 31)) &&& 1).toInt) d_TrustDeskModel_areAsked_15 (by decide) rfl (fun b6 => ?_) (fun b6 => ?_)
        · refine mv_aload_n d_TrustDeskModel_areAsked_21 rfl rfl ?_
          refine mv_iload_n d_TrustDeskModel_areAsked_22 rfl rfl ?_
          obtain ⟨_, b7, -⟩ := I_1.1 _ _ h_q0_1
          refine mv_callV (kc1 := 0) (ks1 := 0) (kc' := 0) (ks' := 0) (As := [.int i3_1]) (st9 := [.int i3_1, .ref o0]) d_TrustDeskModel_areAsked_23 lV_TrustDeskModel_492 b7 rfl (mj_enter (by decide) (Nat.le_of_ble_eq_true rfl) ?_) rfl (Nat.le_of_ble_eq_true rfl) (Nat.le_of_ble_eq_true rfl) (Nat.le_of_ble_eq_true rfl) (hst := rfl) (fun _ _ _ h => h)
          refine mv_aload_n d_TrustDeskModel_isFree_0 rfl rfl ?_
          refine mv_iload_n d_TrustDeskModel_isFree_1 rfl rfl ?_
          obtain ⟨_, b8, -⟩ := I_1.1 _ _ h_q0_1
          refine mv_callV (kc1 := 0) (ks1 := 0) (kc' := 0) (ks' := 0) (As := [.int i3_1]) (st9 := [.int i3_1, .ref o0]) d_TrustDeskModel_isFree_2 lV_TrustDeskModel_418 b8 rfl (mj_enter (by decide) (Nat.le_of_ble_eq_true rfl) ?_) rfl (Nat.le_of_ble_eq_true rfl) (Nat.le_of_ble_eq_true rfl) (Nat.le_of_ble_eq_true rfl) (hst := rfl) (fun _ _ _ h => h)
          refine mv_iload_n d_TrustDeskModel_isFund_0 rfl rfl ?_
          have := mz_hi i3_1
          refine mv_if_ltZ (tgt := 16) (a := i3_1.toInt) d_TrustDeskModel_isFund_1 (by decide) rfl (fun b9 => ?_) (fun b9 => ?_)
          · refine mv_iconst (v := 0) d_TrustDeskModel_isFund_16 (by decide) ?_
            refine mv_iret d_TrustDeskModel_isFund_17 rfl (by decide) ?_
            refine mv_if_eq_t (tgt := 22) d_TrustDeskModel_isFree_5 (by decide) (by decide) ?_
            refine mv_iconst (v := 0) d_TrustDeskModel_isFree_22 (by decide) ?_
            refine mv_iret d_TrustDeskModel_isFree_23 rfl (by decide) ?_
            refine mv_if_ne_f (tgt := 31) d_TrustDeskModel_areAsked_26 (by decide) (by decide) ?_
            refine mv_iconst (v := 0) d_TrustDeskModel_areAsked_29 (by decide) ?_
            exact mv_iret d_TrustDeskModel_areAsked_30 rfl (by decide) ⟨_, I_1, _, rfl, by decide, by decide, kKR_1⟩
          · refine mv_iload_n d_TrustDeskModel_isFund_4 rfl rfl ?_
            refine mv_aload_n d_TrustDeskModel_isFund_5 rfl rfl ?_
            obtain ⟨v11, q10⟩ := tm_atI I_1 h_q0_1 (k := 32) rfl
            refine tr_getK q10 d_TrustDeskModel_isFund_6 f_TrustDeskModel_415_13 ?_
            have := kKR_1.f (k := 32) q10 rfl
            have := mz_hi i3_1
            have := mz_hi v11
            refine mv_icmp_geZ (tgt := 16) (a := i3_1.toInt) (b := v11.toInt) d_TrustDeskModel_isFund_9 (by decide) rfl rfl (fun b12 => ?_) (fun b12 => ?_)
            · refine mv_iconst (v := 0) d_TrustDeskModel_isFund_16 (by decide) ?_
              refine mv_iret d_TrustDeskModel_isFund_17 rfl (by decide) ?_
              refine mv_if_eq_t (tgt := 22) d_TrustDeskModel_isFree_5 (by decide) (by decide) ?_
              refine mv_iconst (v := 0) d_TrustDeskModel_isFree_22 (by decide) ?_
              refine mv_iret d_TrustDeskModel_isFree_23 rfl (by decide) ?_
              refine mv_if_ne_f (tgt := 31) d_TrustDeskModel_areAsked_26 (by decide) (by decide) ?_
              refine mv_iconst (v := 0) d_TrustDeskModel_areAsked_29 (by decide) ?_
              exact mv_iret d_TrustDeskModel_areAsked_30 rfl (by decide) ⟨_, I_1, _, rfl, by decide, by decide, kKR_1⟩
            · refine mv_iconst (v := 1) d_TrustDeskModel_isFund_12 (by decide) ?_
              refine mv_goto (tgt := 17) d_TrustDeskModel_isFund_13 (by decide) ?_
              refine mv_iret d_TrustDeskModel_isFund_17 rfl (by decide) ?_
              refine mv_if_eq_f (tgt := 22) d_TrustDeskModel_isFree_5 (by decide) (by decide) ?_
              refine mv_aload_n d_TrustDeskModel_isFree_8 rfl rfl ?_
              obtain ⟨a14, q13, t_a14⟩ := tm_atR I_1 h_q0_1 (k := 37) rfl
              refine tr_getK q13 d_TrustDeskModel_isFree_9 f_TrustDeskModel_79_13 ?_
              refine mv_iload_n d_TrustDeskModel_isFree_12 rfl rfl ?_
              refine tr_ialdR (o := o0) (k := 37) I_1 q13 t_a14 (by decide) d_TrustDeskModel_isFree_13 (vp_in_iff.mpr (by omega)) (fun v15 e16 => ?_)
              have := kKR_1.a (k := 37) rfl (i3_1 : Int32).toNatClampNeg
              refine mv_iconst (v := (-1)) d_TrustDeskModel_isFree_14 (by decide) ?_
              have := mz_hi v15
              refine mv_icmp_neZ (tgt := 22) (a := v15.toInt) (b := (-1)) d_TrustDeskModel_isFree_15 (by decide) rfl (by decide) (fun b17 => ?_) (fun b17 => ?_)
              · refine mv_iconst (v := 0) d_TrustDeskModel_isFree_22 (by decide) ?_
                refine mv_iret d_TrustDeskModel_isFree_23 rfl (by decide) ?_
                refine mv_if_ne_f (tgt := 31) d_TrustDeskModel_areAsked_26 (by decide) (by decide) ?_
                refine mv_iconst (v := 0) d_TrustDeskModel_areAsked_29 (by decide) ?_
                exact mv_iret d_TrustDeskModel_areAsked_30 rfl (by decide) ⟨_, I_1, _, rfl, by decide, by decide, kKR_1⟩
              · refine mv_iconst (v := 1) d_TrustDeskModel_isFree_18 (by decide) ?_
                refine mv_goto (tgt := 23) d_TrustDeskModel_isFree_19 (by decide) ?_
                refine mv_iret d_TrustDeskModel_isFree_23 rfl (by decide) ?_
                refine mv_if_ne_t (tgt := 31) d_TrustDeskModel_areAsked_26 (by decide) (by decide) ?_
                refine mv_iinc (v := (i2_1 + 1)) (lv' := [(2, .int (i2_1 + 1)), (3, .int i3_1), (0, .ref o0), (1, .int x1)]) d_TrustDeskModel_areAsked_31 rfl rfl (by decide) rfl ?_
                refine mv_iinc (v := (i3_1 + 1)) (lv' := [(3, .int (i3_1 + 1)), (2, .int (i2_1 + 1)), (0, .ref o0), (1, .int x1)]) d_TrustDeskModel_areAsked_34 rfl rfl (by decide) rfl ?_
                refine mv_goto (tgt := 4) d_TrustDeskModel_areAsked_37 (by decide) ?_
                have b18 : (i3_1 + 1 : Int32).toInt = (i3_1.toInt + 1) := mz_add2 rfl (by decide) (by omega) (by omega)
                have b19 : (i3_1 + 1).toInt = i3_1.toInt + 1 := mz_addn 1 1 (by decide) (by have := mz_lo i3_1; omega) (by have := mz_hi i3_1; omega)
                exact (ih1 (i3_1 + 1) (i2_1 + 1) T_1 M_1 n_1 I_1 h_q0_1 (by first | omega | decide | exact fun h9 => absurd (by decide) h9) kKR_1 (by omega))
        · refine mv_goto (tgt := 34) d_TrustDeskModel_areAsked_18 (by decide) ?_
          refine mv_iinc (v := (i3_1 + 1)) (lv' := [(3, .int (i3_1 + 1)), (2, .int i2_1), (0, .ref o0), (1, .int x1)]) d_TrustDeskModel_areAsked_34 rfl rfl (by decide) rfl ?_
          refine mv_goto (tgt := 4) d_TrustDeskModel_areAsked_37 (by decide) ?_
          have b20 : (i3_1 + 1 : Int32).toInt = (i3_1.toInt + 1) := mz_add2 rfl (by decide) (by omega) (by omega)
          have b21 : (i3_1 + 1).toInt = i3_1.toInt + 1 := mz_addn 1 1 (by decide) (by have := mz_lo i3_1; omega) (by have := mz_hi i3_1; omega)
          exact (ih1 (i3_1 + 1) i2_1 T_1 M_1 n_1 I_1 h_q0_1 (by first | omega | decide | exact fun h9 => absurd (by decide) h9) kKR_1 (by omega))
  have : (0 : Int32).toInt = 0 := by decide
  exact mv_less (Nat.zero_le _) (Nat.zero_le _) (L4_1 4294967296 0 0 T0 M0 n0 I0 h_o0 (by first | omega | decide | exact fun h9 => absurd (by decide) h9) yR (by show (2147483647 - (0 : Int) : Int) < _; decide))
