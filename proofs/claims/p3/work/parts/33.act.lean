abbrev kY_TrustDeskModel_act : mj_Y := (⟨"TrustDeskModel", "act", "(I)I"⟩, prog_14_method_44_code, 3, (Option.some Jvm.ClassFile.FieldType.int))
theorem d_TrustDeskModel_act_0 : decode kY_TrustDeskModel_act.2.1 0 = .ok (.aload_n 0, 1) := by decide +kernel
theorem d_TrustDeskModel_act_1 : decode kY_TrustDeskModel_act.2.1 1 = .ok (.iconst 0, 1) := by decide +kernel
theorem d_TrustDeskModel_act_2 : decode kY_TrustDeskModel_act.2.1 2 = .ok (.putfield 1, 3) := by decide +kernel
theorem p_TrustDeskModel_1_13 : mj_fp "TrustDeskModel" 1 13 0 (kt_TrustDeskModel 0) false := ⟨kR_TrustDeskModel, kF_TrustDeskModel, 72, "TrustDeskModel", kt_TrustDeskModel, rfl, kg_13, by decide, (mj_in1 (List.mem_of_getElem? (i := 1386) (by decide +kernel)) rfl), Or.inl rfl, kto_TrustDeskModel, kn_TrustDeskModel, rfl, rfl, fun h => by cases h⟩
theorem d_TrustDeskModel_act_5 : decode kY_TrustDeskModel_act.2.1 5 = .ok (.iload_n 1, 1) := by decide +kernel
theorem d_TrustDeskModel_act_6 : decode kY_TrustDeskModel_act.2.1 6 = .ok (.i2l, 1) := by decide +kernel
theorem d_TrustDeskModel_act_7 : decode kY_TrustDeskModel_act.2.1 7 = .ok (.lconst 0, 1) := by decide +kernel
theorem d_TrustDeskModel_act_8 : decode kY_TrustDeskModel_act.2.1 8 = .ok (.ldc2_w 376, 3) := by decide +kernel
theorem k_TrustDeskModel_376 : Cond.constantLong "TrustDeskModel" 376 36000 ∈ mj_T := (mj_in1 (List.mem_of_getElem? (i := 1643) (by decide +kernel)) rfl)
theorem d_TrustDeskModel_act_11 : decode kY_TrustDeskModel_act.2.1 11 = .ok (.invokestatic 169, 3) := by decide +kernel
theorem d_TrustDeskModel_act_14 : decode kY_TrustDeskModel_act.2.1 14 = .ok (.ifCond .eq 12, 3) := by decide +kernel
theorem d_TrustDeskModel_act_26 : decode kY_TrustDeskModel_act.2.1 26 = .ok (.iconst (-1), 1) := by decide +kernel
theorem d_TrustDeskModel_act_27 : decode kY_TrustDeskModel_act.2.1 27 = .ok (.ireturn, 1) := by decide +kernel
theorem d_TrustDeskModel_act_17 : decode kY_TrustDeskModel_act.2.1 17 = .ok (.aload_n 0, 1) := by decide +kernel
theorem d_TrustDeskModel_act_18 : decode kY_TrustDeskModel_act.2.1 18 = .ok (.getfield 378, 3) := by decide +kernel
theorem f_TrustDeskModel_378_13 : mj_fl "TrustDeskModel" 378 13 27 := ⟨kR_TrustDeskModel, kF_TrustDeskModel, 72, "TrustDeskModel", rfl, kg_13, by decide, (mj_in1 (List.mem_of_getElem? (i := 1413) (by decide +kernel)) rfl), Or.inl rfl⟩
theorem d_TrustDeskModel_act_21 : decode kY_TrustDeskModel_act.2.1 21 = .ok (.bipush 20, 2) := by decide +kernel
theorem d_TrustDeskModel_act_23 : decode kY_TrustDeskModel_act.2.1 23 = .ok (.if_icmp .ne 5, 3) := by decide +kernel
theorem d_TrustDeskModel_act_28 : decode kY_TrustDeskModel_act.2.1 28 = .ok (.aload_n 0, 1) := by decide +kernel
theorem d_TrustDeskModel_act_29 : decode kY_TrustDeskModel_act.2.1 29 = .ok (.iconst 1, 1) := by decide +kernel
theorem d_TrustDeskModel_act_30 : decode kY_TrustDeskModel_act.2.1 30 = .ok (.invokevirtual 381, 3) := by decide +kernel
theorem lV_TrustDeskModel_381 : mj_lV "TrustDeskModel" 381 kY_TrustDeskModel_starts 1 := ⟨⟨(mj_in1 (List.mem_of_getElem? (i := 1644) (by decide +kernel)) rfl), (mj_in1 (List.mem_of_getElem? (i := 10) (by decide +kernel)) rfl), (mj_in1 (List.mem_of_getElem? (i := 1647) (by decide +kernel)) rfl), by decide, rfl, by decide⟩, (mj_in1 (List.mem_of_getElem? (i := 1646) (by decide +kernel)) rfl), (mj_in (List.mem_append_left _ (List.mem_of_getElem? (i := 80) (by decide +kernel))) rfl)⟩
theorem d_TrustDeskModel_act_33 : decode kY_TrustDeskModel_act.2.1 33 = .ok (.aload_n 0, 1) := by decide +kernel
theorem d_TrustDeskModel_act_34 : decode kY_TrustDeskModel_act.2.1 34 = .ok (.invokevirtual 230, 3) := by decide +kernel
theorem d_TrustDeskModel_act_37 : decode kY_TrustDeskModel_act.2.1 37 = .ok (.ifCond .eq 17, 3) := by decide +kernel
theorem d_TrustDeskModel_act_54 : decode kY_TrustDeskModel_act.2.1 54 = .ok (.aload_n 0, 1) := by decide +kernel
theorem d_TrustDeskModel_act_55 : decode kY_TrustDeskModel_act.2.1 55 = .ok (.aload_n 0, 1) := by decide +kernel
theorem d_TrustDeskModel_act_56 : decode kY_TrustDeskModel_act.2.1 56 = .ok (.getfield 378, 3) := by decide +kernel
theorem d_TrustDeskModel_act_59 : decode kY_TrustDeskModel_act.2.1 59 = .ok (.invokevirtual 388, 3) := by decide +kernel
theorem lV_TrustDeskModel_388 : mj_lV "TrustDeskModel" 388 kY_TrustDeskModel_stops 1 := ⟨⟨(mj_in1 (List.mem_of_getElem? (i := 1772) (by decide +kernel)) rfl), (mj_in1 (List.mem_of_getElem? (i := 10) (by decide +kernel)) rfl), (mj_in1 (List.mem_of_getElem? (i := 1775) (by decide +kernel)) rfl), by decide, rfl, by decide⟩, (mj_in1 (List.mem_of_getElem? (i := 1774) (by decide +kernel)) rfl), (mj_in (List.mem_append_left _ (List.mem_of_getElem? (i := 103) (by decide +kernel))) rfl)⟩
theorem d_TrustDeskModel_act_62 : decode kY_TrustDeskModel_act.2.1 62 = .ok (.istore_n 2, 1) := by decide +kernel
theorem d_TrustDeskModel_act_63 : decode kY_TrustDeskModel_act.2.1 63 = .ok (.iload_n 2, 1) := by decide +kernel
theorem d_TrustDeskModel_act_64 : decode kY_TrustDeskModel_act.2.1 64 = .ok (.ifCond .ge 5, 3) := by decide +kernel
theorem d_TrustDeskModel_act_69 : decode kY_TrustDeskModel_act.2.1 69 = .ok (.aload_n 0, 1) := by decide +kernel
theorem d_TrustDeskModel_act_70 : decode kY_TrustDeskModel_act.2.1 70 = .ok (.getfield 57, 3) := by decide +kernel
theorem f_TrustDeskModel_57_13 : mj_fl "TrustDeskModel" 57 13 28 := ⟨kR_TrustDeskModel, kF_TrustDeskModel, 72, "TrustDeskModel", rfl, kg_13, by decide, (mj_in1 (List.mem_of_getElem? (i := 1414) (by decide +kernel)) rfl), Or.inl rfl⟩
theorem d_TrustDeskModel_act_73 : decode kY_TrustDeskModel_act.2.1 73 = .ok (.aload_n 0, 1) := by decide +kernel
theorem d_TrustDeskModel_act_74 : decode kY_TrustDeskModel_act.2.1 74 = .ok (.getfield 378, 3) := by decide +kernel
theorem d_TrustDeskModel_act_77 : decode kY_TrustDeskModel_act.2.1 77 = .ok (.iload_n 1, 1) := by decide +kernel
theorem d_TrustDeskModel_act_78 : decode kY_TrustDeskModel_act.2.1 78 = .ok (.iastore, 1) := by decide +kernel
theorem d_TrustDeskModel_act_79 : decode kY_TrustDeskModel_act.2.1 79 = .ok (.aload_n 0, 1) := by decide +kernel
theorem d_TrustDeskModel_act_80 : decode kY_TrustDeskModel_act.2.1 80 = .ok (.dup, 1) := by decide +kernel
theorem d_TrustDeskModel_act_81 : decode kY_TrustDeskModel_act.2.1 81 = .ok (.getfield 378, 3) := by decide +kernel
theorem d_TrustDeskModel_act_84 : decode kY_TrustDeskModel_act.2.1 84 = .ok (.iconst 1, 1) := by decide +kernel
theorem d_TrustDeskModel_act_85 : decode kY_TrustDeskModel_act.2.1 85 = .ok (.iadd, 1) := by decide +kernel
theorem d_TrustDeskModel_act_86 : decode kY_TrustDeskModel_act.2.1 86 = .ok (.putfield 378, 3) := by decide +kernel
theorem p_TrustDeskModel_378_13 : mj_fp "TrustDeskModel" 378 13 27 (kt_TrustDeskModel 27) false := ⟨kR_TrustDeskModel, kF_TrustDeskModel, 72, "TrustDeskModel", kt_TrustDeskModel, rfl, kg_13, by decide, (mj_in1 (List.mem_of_getElem? (i := 1413) (by decide +kernel)) rfl), Or.inl rfl, kto_TrustDeskModel, kn_TrustDeskModel, rfl, rfl, fun h => by cases h⟩
theorem d_TrustDeskModel_act_89 : decode kY_TrustDeskModel_act.2.1 89 = .ok (.aload_n 0, 1) := by decide +kernel
theorem d_TrustDeskModel_act_90 : decode kY_TrustDeskModel_act.2.1 90 = .ok (.getfield 23, 3) := by decide +kernel
theorem d_TrustDeskModel_act_93 : decode kY_TrustDeskModel_act.2.1 93 = .ok (.aload_n 0, 1) := by decide +kernel
theorem d_TrustDeskModel_act_94 : decode kY_TrustDeskModel_act.2.1 94 = .ok (.getfield 378, 3) := by decide +kernel
theorem d_TrustDeskModel_act_97 : decode kY_TrustDeskModel_act.2.1 97 = .ok (.iconst 1, 1) := by decide +kernel
theorem d_TrustDeskModel_act_98 : decode kY_TrustDeskModel_act.2.1 98 = .ok (.isub, 1) := by decide +kernel
theorem d_TrustDeskModel_act_99 : decode kY_TrustDeskModel_act.2.1 99 = .ok (.iaload, 1) := by decide +kernel
theorem d_TrustDeskModel_act_100 : decode kY_TrustDeskModel_act.2.1 100 = .ok (.ireturn, 1) := by decide +kernel
theorem d_TrustDeskModel_act_67 : decode kY_TrustDeskModel_act.2.1 67 = .ok (.iload_n 2, 1) := by decide +kernel
theorem d_TrustDeskModel_act_68 : decode kY_TrustDeskModel_act.2.1 68 = .ok (.ireturn, 1) := by decide +kernel
theorem d_TrustDeskModel_act_40 : decode kY_TrustDeskModel_act.2.1 40 = .ok (.aload_n 0, 1) := by decide +kernel
theorem d_TrustDeskModel_act_41 : decode kY_TrustDeskModel_act.2.1 41 = .ok (.getfield 198, 3) := by decide +kernel
theorem d_TrustDeskModel_act_44 : decode kY_TrustDeskModel_act.2.1 44 = .ok (.ifCond .eq 10, 3) := by decide +kernel
theorem d_TrustDeskModel_act_47 : decode kY_TrustDeskModel_act.2.1 47 = .ok (.aload_n 0, 1) := by decide +kernel
theorem d_TrustDeskModel_act_48 : decode kY_TrustDeskModel_act.2.1 48 = .ok (.invokevirtual 385, 3) := by decide +kernel
theorem lV_TrustDeskModel_385 : mj_lV "TrustDeskModel" 385 kY_TrustDeskModel_readRule 0 := ⟨⟨(mj_in1 (List.mem_of_getElem? (i := 1666) (by decide +kernel)) rfl), (mj_in1 (List.mem_of_getElem? (i := 10) (by decide +kernel)) rfl), (mj_in1 (List.mem_of_getElem? (i := 1669) (by decide +kernel)) rfl), by decide, rfl, by decide⟩, (mj_in1 (List.mem_of_getElem? (i := 1668) (by decide +kernel)) rfl), (mj_in (List.mem_append_left _ (List.mem_of_getElem? (i := 84) (by decide +kernel))) rfl)⟩
theorem d_TrustDeskModel_act_51 : decode kY_TrustDeskModel_act.2.1 51 = .ok (.goto (-18), 3) := by decide +kernel
def w_TrustDeskModel_act_x : List Nat := [1300, 1314, 1315, 1316, 1317, 1318, 1319, 1320, 1321, 1322, 1323, 1324, 1327, 20004, 20005, 20006, 20007, 20008, 20009, 20010, 20011, 20012, 20028]
set_option maxHeartbeats 100000000 in theorem tc_TrustDeskModel_act_x {g : mj_G} {l : Launch} {d : Nat} {T0 : tm_H} {M0 : mj_M} {n0 x9 : Nat} {o0 : Nat} {x1 : Int32} (h_o0 : T0 o0 = some (0, 13, 0)) (yR : rI M0 o0) (yC : rC M0 o0 44) (I0 : tm_I tm_FT (tm_in w_TrustDeskModel_act_x) x9 T0 M0 n0 T0 M0 n0) : mj_Met g l kY_TrustDeskModel_act (d + 26) [.ref o0, .int x1] M0 n0 0 0 (tm_Q tm_FT (tm_in w_TrustDeskModel_act_x) x9 T0 M0 n0 (fun r _ M => ∃ v : Int32, r = some (.int v) ∧ rI M o0 ∧ (rC M o0 44))) := by
  refine mj_enter (by decide) (Nat.le_of_ble_eq_true rfl) ?_
  have K1 : rC M0 o0 44 := yC
  refine mv_aload_n d_TrustDeskModel_act_0 rfl rfl ?_
  refine mv_iconst (v := 0) d_TrustDeskModel_act_1 (by decide) ?_
  refine tr_putR (k := 0) I0 yR h_o0 rfl ⟨_, rfl⟩ (fun _ h => by cases h) rfl (fun lo hi h => by cases h) (Or.inl (by decide)) d_TrustDeskModel_act_2 p_TrustDeskModel_1_13 rfl rfl (fun M2 I3 q4 K5 R6 A7 V8 => ?_)
  have z9 := (V8 15 (by decide))
  have z10 := (V8 16 (by decide))
  have z11 := (V8 17 (by decide))
  have z12 := (V8 19 (by decide))
  have z13 := (V8 22 (by decide))
  have z14 := (V8 24 (by decide))
  have z15 := (V8 27 (by decide))
  have z16 := (V8 32 (by decide))
  have z17 := (V8 49 (by decide))
  have z18 := (A7 5 (by decide) 44)
  have z19 := (A7 6 (by decide) 44)
  have K20 : rC M2 o0 44 := K1.same (sA_f A7 (by decide)) (sF_f V8 (by decide))
  refine mv_iload_n d_TrustDeskModel_act_5 rfl rfl ?_
  refine mv_i2l (v := x1.toInt64) d_TrustDeskModel_act_6 rfl ?_
  refine mv_lconst (v := 0) d_TrustDeskModel_act_7 (by decide) ?_
  refine mv_ldc2 d_TrustDeskModel_act_8 k_TrustDeskModel_376 ?_
  refine mv_callS (kc1 := 0) (ks1 := 0) (kc' := 0) (ks' := 0) (As := [.long x1.toInt64, .long 0, .long 36000]) (st9 := [.long 36000, .long 0, .long x1.toInt64]) d_TrustDeskModel_act_11 lS_TrustDeskModel_169 (mj_enter (by decide) (Nat.le_of_ble_eq_true rfl) ?_) rfl (Nat.le_of_ble_eq_true rfl) (Nat.le_of_ble_eq_true rfl) (Nat.le_of_ble_eq_true rfl) (hst := rfl) (fun _ _ _ h => h)
  refine mv_lload_n d_TrustDeskModel_within_0 rfl rfl ?_
  refine mv_lload_n d_TrustDeskModel_within_1 rfl rfl ?_
  refine mv_lltZ (tgt := 17) (a := x1.toInt) (b := 0) d_TrustDeskModel_within_2 d_TrustDeskModel_within_3 (by decide) (mz_wide _) (by decide) (fun b21 => ?_) (fun b21 => ?_)
  · refine mv_iconst (v := 0) d_TrustDeskModel_within_17 (by decide) ?_
    refine mv_iret d_TrustDeskModel_within_18 rfl (by decide) ?_
    refine mv_if_eq_t (tgt := 26) d_TrustDeskModel_act_14 (by decide) (by decide) ?_
    refine mv_iconst (v := (-1)) d_TrustDeskModel_act_26 (by decide) ?_
    exact mv_iret d_TrustDeskModel_act_27 rfl (by first | rfl | decide) ⟨_, I3, _, rfl, R6, K20⟩
  · refine mv_lload_n d_TrustDeskModel_within_6 rfl rfl ?_
    refine mv_lload d_TrustDeskModel_within_7 rfl ?_
    refine mv_lgtZ (tgt := 17) (a := x1.toInt) (b := 36000) d_TrustDeskModel_within_9 d_TrustDeskModel_within_10 (by decide) (mz_wide _) (by decide) (fun b22 => ?_) (fun b22 => ?_)
    · refine mv_iconst (v := 0) d_TrustDeskModel_within_17 (by decide) ?_
      refine mv_iret d_TrustDeskModel_within_18 rfl (by decide) ?_
      refine mv_if_eq_t (tgt := 26) d_TrustDeskModel_act_14 (by decide) (by decide) ?_
      refine mv_iconst (v := (-1)) d_TrustDeskModel_act_26 (by decide) ?_
      exact mv_iret d_TrustDeskModel_act_27 rfl (by first | rfl | decide) ⟨_, I3, _, rfl, R6, K20⟩
    · refine mv_iconst (v := 1) d_TrustDeskModel_within_13 (by decide) ?_
      refine mv_goto (tgt := 18) d_TrustDeskModel_within_14 (by decide) ?_
      refine mv_iret d_TrustDeskModel_within_18 rfl (by decide) ?_
      refine mv_if_eq_f (tgt := 26) d_TrustDeskModel_act_14 (by decide) (by decide) ?_
      refine mv_aload_n d_TrustDeskModel_act_17 rfl rfl ?_
      obtain ⟨v24, q23⟩ := tm_atI I3 h_o0 (k := 27) rfl
      refine tr_getK q23 d_TrustDeskModel_act_18 f_TrustDeskModel_378_13 ?_
      have := R6.f (k := 27) q23 rfl
      have := (tm_rv q23).symm.trans z15
      have := tm_rv q23
      refine mv_bipush (v := 20) d_TrustDeskModel_act_21 (by decide) ?_
      have := mz_hi v24
      refine mv_icmp_neZ (tgt := 28) (a := v24.toInt) (b := 20) d_TrustDeskModel_act_23 (by decide) rfl (by decide) (fun b25 => ?_) (fun b25 => ?_)
      · refine mv_aload_n d_TrustDeskModel_act_28 rfl rfl ?_
        refine mv_iconst (v := 1) d_TrustDeskModel_act_29 (by decide) ?_
        obtain ⟨_, b32, -⟩ := I3.1 _ _ h_o0
        have : (1 : Int32).toInt = 1 := by decide
        refine mv_callV (kc' := 0) (ks' := 0) (As := [.int 1]) (st9 := [.int 1, .ref o0]) d_TrustDeskModel_act_30 lV_TrustDeskModel_381 b32 rfl (tc_TrustDeskModel_starts_x (d := (d + 23)) (x9 := x9) (o0 := o0) (x1 := 1) h_o0 (by decide) R6 I3.start) rfl (Nat.le_of_ble_eq_true rfl) (Nat.le_of_ble_eq_true rfl) (Nat.le_of_ble_eq_true rfl) (hst := rfl) (fun b26r M27 n28 b26 => ?_)
        obtain ⟨T29, J30, rfl, R33, f34, f35, f36, f37, f38, f39⟩ := b26
        have I31 := I3.call J30 (tm_sub (by decide)) (Or.inl rfl)
        have t40 := J30.up h_o0
        have z41 := (rv_c I3 J30 (I3.up h_o0) (k := 27) rfl).trans z15
        have z42 := (rv_c I3 J30 (I3.up h_o0) (k := 32) rfl).trans z16
        have z43 := (rv_c I3 J30 (I3.up h_o0) (k := 49) rfl).trans z17
        have K44 : rC M27 o0 44 := K20.same (sA_c I3 J30 (I3.up h_o0) (by decide +kernel)) (sF_c I3 J30 (I3.up h_o0) (by decide +kernel))
        have K45 : rW M27 o0 := rW.start f34 R33 f38 f39 f37
        clear z15 z16 z17
        have q46 := J30.keep h_o0 (by decide) q4
        have q47 := J30.keep h_o0 (by decide) q23
        have L33_48 : ∀ (k : Nat) (T_48 : tm_H) (M_48 : mj_M) (n_48 : Nat), tm_I tm_FT (tm_in w_TrustDeskModel_act_x) x9 T0 M0 n0 T_48 M_48 n_48 → T_48 o0 = some (0, 13, 0) → (rv M_48 o0 19 = 0 → rv M_48 o0 22 = 0) → rv M_48 o0 27 = rv M0 o0 27 → rv M_48 o0 32 = rv M0 o0 32 → rv M_48 o0 49 = rv M0 o0 49 → (rI M_48 o0) → (rC M_48 o0 44) → (rW M_48 o0) → 5 * (401 - rv M_48 o0 16) - rv M_48 o0 19 < (k : Int) → mj_V g l kY_TrustDeskModel_act (d + 26) 33 [(0, .ref o0), (1, .int x1)] [] M_48 n_48 0 0 (tm_Q tm_FT (tm_in w_TrustDeskModel_act_x) x9 T0 M0 n0 (fun r _ M => ∃ v : Int32, r = some (.int v) ∧ rI M o0 ∧ (rC M o0 44))) := by
          intro k48
          induction k48 with
          | zero =>
            intro T_48 M_48 n_48 I_48 h_q0_48 iv0_48 iv1_48 iv2_48 iv3_48 kKR_48 kKC_48 kKW_48 hk48
            have := kKR_48.1 15 _ _ rfl
            have := kKR_48.1 16 _ _ rfl
            have := kKR_48.1 19 _ _ rfl
            exfalso; omega
          | succ k48 ih48 =>
            intro T_48 M_48 n_48 I_48 h_q0_48 iv0_48 iv1_48 iv2_48 iv3_48 kKR_48 kKC_48 kKW_48 hk48
            refine mv_aload_n d_TrustDeskModel_act_33 rfl rfl ?_
            obtain ⟨_, b49, -⟩ := I_48.1 _ _ h_q0_48
            refine mv_callV (kc1 := 0) (ks1 := 0) (kc' := 0) (ks' := 0) (As := []) (st9 := [.ref o0]) d_TrustDeskModel_act_34 lV_TrustDeskModel_230 b49 rfl (mj_enter (by decide) (Nat.le_of_ble_eq_true rfl) ?_) rfl (Nat.le_of_ble_eq_true rfl) (Nat.le_of_ble_eq_true rfl) (Nat.le_of_ble_eq_true rfl) (hst := rfl) (fun _ _ _ h => h)
            refine mv_aload_n d_TrustDeskModel_isWell_0 rfl rfl ?_
            obtain ⟨v51, q50⟩ := tm_atI I_48 h_q0_48 (k := 19) rfl
            refine tr_getK q50 d_TrustDeskModel_isWell_1 f_TrustDeskModel_224_13 ?_
            have := kKR_48.f (k := 19) q50 rfl
            have := tm_rv q50
            have := mz_hi v51
            refine mv_if_neZ (tgt := 11) (a := v51.toInt) d_TrustDeskModel_isWell_4 (by decide) rfl (fun b52 => ?_) (fun b52 => ?_)
            · refine mv_iconst (v := 0) d_TrustDeskModel_isWell_11 (by decide) ?_
              refine mv_iret d_TrustDeskModel_isWell_12 rfl (by decide) ?_
              refine mv_if_eq_t (tgt := 54) d_TrustDeskModel_act_37 (by decide) (by decide) ?_
              refine mv_aload_n d_TrustDeskModel_act_54 rfl rfl ?_
              refine mv_aload_n d_TrustDeskModel_act_55 rfl rfl ?_
              obtain ⟨v54, q53⟩ := tm_atI I_48 h_q0_48 (k := 27) rfl
              refine tr_getK q53 d_TrustDeskModel_act_56 f_TrustDeskModel_378_13 ?_
              have := kKR_48.f (k := 27) q53 rfl
              have := tm_rv q53
              obtain ⟨_, b61, -⟩ := I_48.1 _ _ h_q0_48
              refine mv_callV (kc' := 0) (ks' := 0) (As := [.int v54]) (st9 := [.int v54, .ref o0]) d_TrustDeskModel_act_59 lV_TrustDeskModel_388 b61 rfl (tc_TrustDeskModel_stops_x (d := (d + 24)) (x9 := x9) (o0 := o0) (x1 := v54) h_q0_48 kKR_48 (by have := kKR_48.1 15 _ _ rfl; have := kKR_48.1 16 _ _ rfl; have := kKR_48.1 19 _ _ rfl; omega) I_48.start) rfl (Nat.le_of_ble_eq_true rfl) (Nat.le_of_ble_eq_true rfl) (Nat.le_of_ble_eq_true rfl) (hst := rfl) (fun b55r M56 n57 b55 => ?_)
              obtain ⟨T58, J59, v62, rfl, R63, f64, f65⟩ := b55
              have I60 := I_48.call J59 (tm_sub (by decide)) (Or.inl rfl)
              have t66 := J59.up h_q0_48
              replace f64 := Im.i f64
              replace f65 := Im.i f65
              have z67 := (rv_c I_48 J59 (I_48.up h_o0) (k := 15) rfl)
              have z68 := (rv_c I_48 J59 (I_48.up h_o0) (k := 16) rfl)
              have z69 := (rv_c I_48 J59 (I_48.up h_o0) (k := 17) rfl)
              have z70 := (rv_c I_48 J59 (I_48.up h_o0) (k := 19) rfl)
              have z71 := (rv_c I_48 J59 (I_48.up h_o0) (k := 22) rfl)
              have z72 := (rv_c I_48 J59 (I_48.up h_o0) (k := 24) rfl)
              have z73 := (rv_c I_48 J59 (I_48.up h_o0) (k := 27) rfl)
              have z74 := (rv_c I_48 J59 (I_48.up h_o0) (k := 32) rfl)
              have z75 := (rv_c I_48 J59 (I_48.up h_o0) (k := 49) rfl)
              have K76 : (v62.toInt < 0 → rC M56 o0 44) ∧ (0 ≤ v62.toInt → rC M56 o0 v54.toNatClampNeg) := rC.st kKC_48 kKR_48 kKW_48 (by have := mz_nat9 (i := v54) (by have := kKR_48.1 15 _ _ rfl; have := kKR_48.1 16 _ _ rfl; have := kKR_48.1 19 _ _ rfl; omega); have := kKR_48.1 15 _ _ rfl; have := kKR_48.1 16 _ _ rfl; have := kKR_48.1 19 _ _ rfl; omega) (by unfold rU; have := mz_nat9 (i := v54) (by have := kKR_48.1 15 _ _ rfl; have := kKR_48.1 16 _ _ rfl; have := kKR_48.1 19 _ _ rfl; omega); have := kKR_48.1 15 _ _ rfl; have := kKR_48.1 16 _ _ rfl; have := kKR_48.1 19 _ _ rfl; omega) f64 f65 (sA_c I_48 J59 (I_48.up h_o0) (by decide)) (sF_c I_48 J59 (I_48.up h_o0) (by decide))
              have q77 := J59.keep h_q0_48 (by decide) q50
              have q78 := J59.keep h_q0_48 (by decide) q53
              refine mv_istore_n (lv' := [(2, .int v62), (0, .ref o0), (1, .int x1)]) d_TrustDeskModel_act_62 rfl (by decide) rfl ?_
              refine mv_iload_n d_TrustDeskModel_act_63 rfl rfl ?_
              have := mz_hi v62
              refine mv_if_geZ (tgt := 69) (a := v62.toInt) d_TrustDeskModel_act_64 (by decide) rfl (fun b79 => ?_) (fun b79 => ?_)
              · have K80 : rC M56 o0 v54.toNatClampNeg := K76.2 (by omega)
                refine mv_aload_n d_TrustDeskModel_act_69 rfl rfl ?_
                obtain ⟨a82, q81, t_a82⟩ := tm_atR I60 t66 (k := 28) rfl
                refine tr_getK q81 d_TrustDeskModel_act_70 f_TrustDeskModel_57_13 ?_
                refine mv_aload_n d_TrustDeskModel_act_73 rfl rfl ?_
                refine tr_getK (k := 27) q78 d_TrustDeskModel_act_74 f_TrustDeskModel_378_13 ?_
                refine mv_iload_n d_TrustDeskModel_act_77 rfl rfl ?_
                refine tr_iastR (k := 28) I60 R63 (I60.up h_o0) q81 t_a82 (by decide) (by decide) (fun lo hi h => by cases h) (Or.inl (by decide)) d_TrustDeskModel_act_78 (vp_in_iff.mpr (by have := R63.1 15 _ _ rfl; have := R63.1 16 _ _ rfl; have := R63.1 19 _ _ rfl; omega)) (fun M83 I84 K85 R86 E87 A88 V89 => ?_)
                have z90 := (V89 15).trans z67
                have z91 := (V89 16).trans z68
                have z92 := (V89 17).trans z69
                have z93 := (V89 19).trans z70
                have z94 := (V89 22).trans z71
                have z95 := (V89 24).trans z72
                have z96 := (V89 27).trans z73
                have z97 := (V89 32).trans z74
                have z98 := (V89 49).trans z75
                have z99 := (A88 5 (by decide) rfl 44)
                have z100 := (A88 6 (by decide) rfl 44)
                have K101 : rC M83 o0 v54.toNatClampNeg := K80.same (sA_a A88 (by decide +kernel)) (sF_a V89)
                clear z67 z68 z69 z71 z72 z73 z74 z75
                refine mv_aload_n d_TrustDeskModel_act_79 rfl rfl ?_
                refine mv_dup d_TrustDeskModel_act_80 rfl ?_
                refine tr_getK (k := 27) (K85 _ 13 27 _ q78) d_TrustDeskModel_act_81 f_TrustDeskModel_378_13 ?_
                refine mv_iconst (v := 1) d_TrustDeskModel_act_84 (by decide) ?_
                refine mv_iadd d_TrustDeskModel_act_85 ?_
                have b102 : (v54 + 1 : Int32).toInt = (v54.toInt + 1) := mz_add2 rfl (by decide) (by have := R86.1 15 _ _ rfl; have := R86.1 16 _ _ rfl; have := R86.1 19 _ _ rfl; omega) (by have := R86.1 15 _ _ rfl; have := R86.1 16 _ _ rfl; have := R86.1 19 _ _ rfl; omega)
                refine tr_putR (k := 27) I84 R86 t66 rfl ⟨_, rfl⟩ (fun _ h => by cases h) rfl (fun lo hi h => by cases h; have := R86.1 15 _ _ rfl; have := R86.1 16 _ _ rfl; have := R86.1 19 _ _ rfl; exact ⟨by show (0 : Int) ≤ (v54 + 1).toInt; omega, by show (v54 + 1).toInt ≤ (20 : Int); omega⟩) (Or.inl (by decide)) d_TrustDeskModel_act_86 p_TrustDeskModel_378_13 rfl rfl (fun M103 I104 q105 K106 R107 A108 V109 => ?_)
                have z110 := (V109 15 (by decide)).trans z90
                have z111 := (V109 16 (by decide)).trans z91
                have z112 := (V109 17 (by decide)).trans z92
                have z113 := (V109 19 (by decide)).trans z93
                have z114 := (V109 22 (by decide)).trans z94
                have z115 := (V109 24 (by decide)).trans z95
                have z116 := (V109 32 (by decide)).trans z97
                have z117 := (V109 49 (by decide)).trans z98
                have z118 := (A108 5 (by decide) 44).trans z99
                have z119 := (A108 6 (by decide) 44).trans z100
                have z120 : rv M103 o0 27 = (v54 + 1).toInt := tm_rv q105
                have K121 : rC M103 o0 44 := rC.act K101 A108 V109 (by have := mz_nat9 (i := v54) (by have := R86.1 15 _ _ rfl; have := R86.1 16 _ _ rfl; have := R86.1 19 _ _ rfl; omega); have := R86.1 15 _ _ rfl; have := R86.1 16 _ _ rfl; have := R86.1 19 _ _ rfl; omega) (by have := R86.1 15 _ _ rfl; have := R86.1 16 _ _ rfl; have := R86.1 19 _ _ rfl; omega) (by have := R86.1 15 _ _ rfl; have := R86.1 16 _ _ rfl; have := R86.1 19 _ _ rfl; omega)
                clear z90 z91 z92 z94 z95 z97 z98 z99 z100
                refine mv_aload_n d_TrustDeskModel_act_89 rfl rfl ?_
                obtain ⟨a123, q122, t_a123⟩ := tm_atR I104 t66 (k := 6) rfl
                refine tr_getK q122 d_TrustDeskModel_act_90 f_TrustDeskModel_23_13 ?_
                refine mv_aload_n d_TrustDeskModel_act_93 rfl rfl ?_
                refine tr_getK (k := 27) q105 d_TrustDeskModel_act_94 f_TrustDeskModel_378_13 ?_
                refine mv_iconst (v := 1) d_TrustDeskModel_act_97 (by decide) ?_
                refine mv_isubv (v := v54) d_TrustDeskModel_act_98 (Int32.add_sub_cancel _ _) ?_
                refine tr_ialdR (o := o0) (k := 6) I104 q122 t_a123 (by decide) d_TrustDeskModel_act_99 (vp_in_iff.mpr (by have := R107.1 15 _ _ rfl; have := R107.1 16 _ _ rfl; have := R107.1 19 _ _ rfl; omega)) (fun v124 e125 => ?_)
                have := R107.a (k := 6) rfl (v54 : Int32).toNatClampNeg
                exact mv_iret d_TrustDeskModel_act_100 rfl (by first | rfl | decide) ⟨_, I104, _, rfl, R107, K121⟩
              · have K126 : rC M56 o0 44 := K76.1 (by omega)
                refine mv_iload_n d_TrustDeskModel_act_67 rfl rfl ?_
                exact mv_iret d_TrustDeskModel_act_68 rfl (by first | rfl | decide) ⟨_, I60, _, rfl, R63, K126⟩
            · refine mv_iconst (v := 1) d_TrustDeskModel_isWell_7 (by decide) ?_
              refine mv_goto (tgt := 12) d_TrustDeskModel_isWell_8 (by decide) ?_
              refine mv_iret d_TrustDeskModel_isWell_12 rfl (by decide) ?_
              refine mv_if_eq_f (tgt := 54) d_TrustDeskModel_act_37 (by decide) (by decide) ?_
              refine mv_aload_n d_TrustDeskModel_act_40 rfl rfl ?_
              obtain ⟨v128, q127⟩ := tm_atI I_48 h_q0_48 (k := 17) rfl
              refine tr_getK q127 d_TrustDeskModel_act_41 f_TrustDeskModel_198_13 ?_
              have := tm_rv q127
              have := mz_hi v128
              refine mv_if_eqZ (tgt := 54) (a := v128.toInt) d_TrustDeskModel_act_44 (by decide) rfl (fun b129 => ?_) (fun b129 => ?_)
              · refine mv_aload_n d_TrustDeskModel_act_54 rfl rfl ?_
                refine mv_aload_n d_TrustDeskModel_act_55 rfl rfl ?_
                obtain ⟨v131, q130⟩ := tm_atI I_48 h_q0_48 (k := 27) rfl
                refine tr_getK q130 d_TrustDeskModel_act_56 f_TrustDeskModel_378_13 ?_
                have := kKR_48.f (k := 27) q130 rfl
                have := tm_rv q130
                obtain ⟨_, b138, -⟩ := I_48.1 _ _ h_q0_48
                refine mv_callV (kc' := 0) (ks' := 0) (As := [.int v131]) (st9 := [.int v131, .ref o0]) d_TrustDeskModel_act_59 lV_TrustDeskModel_388 b138 rfl (tc_TrustDeskModel_stops_x (d := (d + 24)) (x9 := x9) (o0 := o0) (x1 := v131) h_q0_48 kKR_48 (by have := kKR_48.1 15 _ _ rfl; have := kKR_48.1 16 _ _ rfl; have := kKR_48.1 19 _ _ rfl; omega) I_48.start) rfl (Nat.le_of_ble_eq_true rfl) (Nat.le_of_ble_eq_true rfl) (Nat.le_of_ble_eq_true rfl) (hst := rfl) (fun b132r M133 n134 b132 => ?_)
                obtain ⟨T135, J136, v139, rfl, R140, f141, f142⟩ := b132
                have I137 := I_48.call J136 (tm_sub (by decide)) (Or.inl rfl)
                have t143 := J136.up h_q0_48
                replace f141 := Im.i f141
                replace f142 := Im.i f142
                have z144 := (rv_c I_48 J136 (I_48.up h_o0) (k := 15) rfl)
                have z145 := (rv_c I_48 J136 (I_48.up h_o0) (k := 16) rfl)
                have z146 := (rv_c I_48 J136 (I_48.up h_o0) (k := 17) rfl)
                have z147 := (rv_c I_48 J136 (I_48.up h_o0) (k := 19) rfl)
                have z148 := (rv_c I_48 J136 (I_48.up h_o0) (k := 22) rfl)
                have z149 := (rv_c I_48 J136 (I_48.up h_o0) (k := 24) rfl)
                have z150 := (rv_c I_48 J136 (I_48.up h_o0) (k := 27) rfl)
                have z151 := (rv_c I_48 J136 (I_48.up h_o0) (k := 32) rfl)
                have z152 := (rv_c I_48 J136 (I_48.up h_o0) (k := 49) rfl)
                have K153 : (v139.toInt < 0 → rC M133 o0 44) ∧ (0 ≤ v139.toInt → rC M133 o0 v131.toNatClampNeg) := rC.st kKC_48 kKR_48 kKW_48 (by have := mz_nat9 (i := v131) (by have := kKR_48.1 15 _ _ rfl; have := kKR_48.1 16 _ _ rfl; have := kKR_48.1 19 _ _ rfl; omega); have := kKR_48.1 15 _ _ rfl; have := kKR_48.1 16 _ _ rfl; have := kKR_48.1 19 _ _ rfl; omega) (by unfold rU; have := mz_nat9 (i := v131) (by have := kKR_48.1 15 _ _ rfl; have := kKR_48.1 16 _ _ rfl; have := kKR_48.1 19 _ _ rfl; omega); have := kKR_48.1 15 _ _ rfl; have := kKR_48.1 16 _ _ rfl; have := kKR_48.1 19 _ _ rfl; omega) f141 f142 (sA_c I_48 J136 (I_48.up h_o0) (by decide)) (sF_c I_48 J136 (I_48.up h_o0) (by decide))
                have q154 := J136.keep h_q0_48 (by decide) q50
                have q155 := J136.keep h_q0_48 (by decide) q127
                have q156 := J136.keep h_q0_48 (by decide) q130
                refine mv_istore_n (lv' := [(2, .int v139), (0, .ref o0), (1, .int x1)]) d_TrustDeskModel_act_62 rfl (by decide) rfl ?_
                refine mv_iload_n d_TrustDeskModel_act_63 rfl rfl ?_
                have := mz_hi v139
                refine mv_if_geZ (tgt := 69) (a := v139.toInt) d_TrustDeskModel_act_64 (by decide) rfl (fun b157 => ?_) (fun b157 => ?_)
                · have K158 : rC M133 o0 v131.toNatClampNeg := K153.2 (by omega)
                  refine mv_aload_n d_TrustDeskModel_act_69 rfl rfl ?_
                  obtain ⟨a160, q159, t_a160⟩ := tm_atR I137 t143 (k := 28) rfl
                  refine tr_getK q159 d_TrustDeskModel_act_70 f_TrustDeskModel_57_13 ?_
                  refine mv_aload_n d_TrustDeskModel_act_73 rfl rfl ?_
                  refine tr_getK (k := 27) q156 d_TrustDeskModel_act_74 f_TrustDeskModel_378_13 ?_
                  refine mv_iload_n d_TrustDeskModel_act_77 rfl rfl ?_
                  refine tr_iastR (k := 28) I137 R140 (I137.up h_o0) q159 t_a160 (by decide) (by decide) (fun lo hi h => by cases h) (Or.inl (by decide)) d_TrustDeskModel_act_78 (vp_in_iff.mpr (by have := R140.1 15 _ _ rfl; have := R140.1 16 _ _ rfl; have := R140.1 19 _ _ rfl; omega)) (fun M161 I162 K163 R164 E165 A166 V167 => ?_)
                  have z168 := (V167 15).trans z144
                  have z169 := (V167 16).trans z145
                  have z170 := (V167 17).trans z146
                  have z171 := (V167 19).trans z147
                  have z172 := (V167 22).trans z148
                  have z173 := (V167 24).trans z149
                  have z174 := (V167 27).trans z150
                  have z175 := (V167 32).trans z151
                  have z176 := (V167 49).trans z152
                  have z177 := (A166 5 (by decide) rfl 44)
                  have z178 := (A166 6 (by decide) rfl 44)
                  have K179 : rC M161 o0 v131.toNatClampNeg := K158.same (sA_a A166 (by decide +kernel)) (sF_a V167)
                  clear z144 z145 z146 z148 z149 z150 z151 z152
                  refine mv_aload_n d_TrustDeskModel_act_79 rfl rfl ?_
                  refine mv_dup d_TrustDeskModel_act_80 rfl ?_
                  refine tr_getK (k := 27) (K163 _ 13 27 _ q156) d_TrustDeskModel_act_81 f_TrustDeskModel_378_13 ?_
                  refine mv_iconst (v := 1) d_TrustDeskModel_act_84 (by decide) ?_
                  refine mv_iadd d_TrustDeskModel_act_85 ?_
                  have b180 : (v131 + 1 : Int32).toInt = (v131.toInt + 1) := mz_add2 rfl (by decide) (by have := R164.1 15 _ _ rfl; have := R164.1 16 _ _ rfl; have := R164.1 19 _ _ rfl; omega) (by have := R164.1 15 _ _ rfl; have := R164.1 16 _ _ rfl; have := R164.1 19 _ _ rfl; omega)
                  refine tr_putR (k := 27) I162 R164 t143 rfl ⟨_, rfl⟩ (fun _ h => by cases h) rfl (fun lo hi h => by cases h; have := R164.1 15 _ _ rfl; have := R164.1 16 _ _ rfl; have := R164.1 19 _ _ rfl; exact ⟨by show (0 : Int) ≤ (v131 + 1).toInt; omega, by show (v131 + 1).toInt ≤ (20 : Int); omega⟩) (Or.inl (by decide)) d_TrustDeskModel_act_86 p_TrustDeskModel_378_13 rfl rfl (fun M181 I182 q183 K184 R185 A186 V187 => ?_)
                  have z188 := (V187 15 (by decide)).trans z168
                  have z189 := (V187 16 (by decide)).trans z169
                  have z190 := (V187 17 (by decide)).trans z170
                  have z191 := (V187 19 (by decide)).trans z171
                  have z192 := (V187 22 (by decide)).trans z172
                  have z193 := (V187 24 (by decide)).trans z173
                  have z194 := (V187 32 (by decide)).trans z175
                  have z195 := (V187 49 (by decide)).trans z176
                  have z196 := (A186 5 (by decide) 44).trans z177
                  have z197 := (A186 6 (by decide) 44).trans z178
                  have z198 : rv M181 o0 27 = (v131 + 1).toInt := tm_rv q183
                  have K199 : rC M181 o0 44 := rC.act K179 A186 V187 (by have := mz_nat9 (i := v131) (by have := R164.1 15 _ _ rfl; have := R164.1 16 _ _ rfl; have := R164.1 19 _ _ rfl; omega); have := R164.1 15 _ _ rfl; have := R164.1 16 _ _ rfl; have := R164.1 19 _ _ rfl; omega) (by have := R164.1 15 _ _ rfl; have := R164.1 16 _ _ rfl; have := R164.1 19 _ _ rfl; omega) (by have := R164.1 15 _ _ rfl; have := R164.1 16 _ _ rfl; have := R164.1 19 _ _ rfl; omega)
                  clear z168 z169 z170 z172 z173 z175 z176 z177 z178
                  refine mv_aload_n d_TrustDeskModel_act_89 rfl rfl ?_
                  obtain ⟨a201, q200, t_a201⟩ := tm_atR I182 t143 (k := 6) rfl
                  refine tr_getK q200 d_TrustDeskModel_act_90 f_TrustDeskModel_23_13 ?_
                  refine mv_aload_n d_TrustDeskModel_act_93 rfl rfl ?_
                  refine tr_getK (k := 27) q183 d_TrustDeskModel_act_94 f_TrustDeskModel_378_13 ?_
                  refine mv_iconst (v := 1) d_TrustDeskModel_act_97 (by decide) ?_
                  refine mv_isubv (v := v131) d_TrustDeskModel_act_98 (Int32.add_sub_cancel _ _) ?_
                  refine tr_ialdR (o := o0) (k := 6) I182 q200 t_a201 (by decide) d_TrustDeskModel_act_99 (vp_in_iff.mpr (by have := R185.1 15 _ _ rfl; have := R185.1 16 _ _ rfl; have := R185.1 19 _ _ rfl; omega)) (fun v202 e203 => ?_)
                  have := R185.a (k := 6) rfl (v131 : Int32).toNatClampNeg
                  exact mv_iret d_TrustDeskModel_act_100 rfl (by first | rfl | decide) ⟨_, I182, _, rfl, R185, K199⟩
                · have K204 : rC M133 o0 44 := K153.1 (by omega)
                  refine mv_iload_n d_TrustDeskModel_act_67 rfl rfl ?_
                  exact mv_iret d_TrustDeskModel_act_68 rfl (by first | rfl | decide) ⟨_, I137, _, rfl, R140, K204⟩
              · refine mv_aload_n d_TrustDeskModel_act_47 rfl rfl ?_
                obtain ⟨_, b211, -⟩ := I_48.1 _ _ h_q0_48
                refine mv_callV (kc' := 0) (ks' := 0) (As := []) (st9 := [.ref o0]) d_TrustDeskModel_act_48 lV_TrustDeskModel_385 b211 rfl (tc_TrustDeskModel_readRule_x (d := d) (x9 := x9) (o0 := o0) h_q0_48 kKR_48 kKW_48 (by have := kKR_48.1 15 _ _ rfl; have := kKR_48.1 16 _ _ rfl; have := kKR_48.1 19 _ _ rfl; omega) (by have := kKR_48.1 15 _ _ rfl; have := kKR_48.1 16 _ _ rfl; have := kKR_48.1 19 _ _ rfl; omega) (by have := kKR_48.1 15 _ _ rfl; have := kKR_48.1 16 _ _ rfl; have := kKR_48.1 19 _ _ rfl; omega) I_48.start) rfl (Nat.le_of_ble_eq_true rfl) (Nat.le_of_ble_eq_true rfl) (Nat.le_of_ble_eq_true rfl) (hst := rfl) (fun b205r M206 n207 b205 => ?_)
                obtain ⟨T208, J209, rfl, R212, f213, f214, f215, f216⟩ := b205
                have I210 := I_48.call J209 (tm_sub (by decide)) (Or.inl rfl)
                have t217 := J209.up h_q0_48
                replace f216 := Im.i f216
                have z218 := (rv_c I_48 J209 (I_48.up h_o0) (k := 24) rfl)
                have z219 := (rv_c I_48 J209 (I_48.up h_o0) (k := 27) rfl)
                have z220 := (rv_c I_48 J209 (I_48.up h_o0) (k := 32) rfl)
                have z221 := (rv_c I_48 J209 (I_48.up h_o0) (k := 49) rfl)
                have K222 : rC M206 o0 44 := kKC_48.rO kKR_48 f214 (sA_c I_48 J209 (I_48.up h_o0) (by decide)) (sF_c I_48 J209 (I_48.up h_o0) (by decide))
                have K223 : rW M206 o0 := f213
                refine mv_goto (tgt := 33) d_TrustDeskModel_act_51 (by decide) ?_
                exact (ih48 T208 M206 n207 I210 t217 (fun w9 => by have u91 : rv M206 o0 19 = 0 := (by omega); have := f216.o u91; omega) (by have := R212.1 15 _ _ rfl; have := R212.1 16 _ _ rfl; have := R212.1 19 _ _ rfl; first | omega | decide | exact fun h9 => absurd (by decide) h9) (by have := R212.1 15 _ _ rfl; have := R212.1 16 _ _ rfl; have := R212.1 19 _ _ rfl; first | omega | decide | exact fun h9 => absurd (by decide) h9) (by have := R212.1 15 _ _ rfl; have := R212.1 16 _ _ rfl; have := R212.1 19 _ _ rfl; first | omega | decide | exact fun h9 => absurd (by decide) h9) R212 K222 K223 (by have := R212.1 15 _ _ rfl; have := R212.1 16 _ _ rfl; have := R212.1 19 _ _ rfl; exact Classical.byCases (fun w9 : rv M206 o0 19 = 0 => by have u91 : rv M206 o0 19 = 0 := (by omega); have := f216.o u91; omega) (fun w9 : ¬ rv M206 o0 19 = 0 => by omega)))
        exact mv_less (Nat.zero_le _) (Nat.zero_le _) (L33_48 4294967296 T29 M27 n28 I31 t40 (fun w9 => by skip; omega) (by have := R33.1 15 _ _ rfl; have := R33.1 16 _ _ rfl; have := R33.1 19 _ _ rfl; first | omega | decide | exact fun h9 => absurd (by decide) h9) (by have := R33.1 15 _ _ rfl; have := R33.1 16 _ _ rfl; have := R33.1 19 _ _ rfl; first | omega | decide | exact fun h9 => absurd (by decide) h9) (by have := R33.1 15 _ _ rfl; have := R33.1 16 _ _ rfl; have := R33.1 19 _ _ rfl; first | omega | decide | exact fun h9 => absurd (by decide) h9) R33 K44 K45 (by have := R33.1 15 _ _ rfl; have := R33.1 16 _ _ rfl; have := R33.1 19 _ _ rfl; omega))
      · refine mv_iconst (v := (-1)) d_TrustDeskModel_act_26 (by decide) ?_
        exact mv_iret d_TrustDeskModel_act_27 rfl (by first | rfl | decide) ⟨_, I3, _, rfl, R6, K20⟩
abbrev kY_TrustDeskModel_addEnd : mj_Y := (⟨"TrustDeskModel", "addEnd", "(IIIIII)V"⟩, prog_14_method_54_code, 8, (Option.none : Option Jvm.ClassFile.FieldType))
theorem d_TrustDeskModel_addEnd_0 : decode kY_TrustDeskModel_addEnd.2.1 0 = .ok (.bipush 80, 2) := by decide +kernel
theorem d_TrustDeskModel_addEnd_2 : decode kY_TrustDeskModel_addEnd.2.1 2 = .ok (.iload_n 1, 1) := by decide +kernel
theorem d_TrustDeskModel_addEnd_3 : decode kY_TrustDeskModel_addEnd.2.1 3 = .ok (.imul, 1) := by decide +kernel
theorem d_TrustDeskModel_addEnd_4 : decode kY_TrustDeskModel_addEnd.2.1 4 = .ok (.aload_n 0, 1) := by decide +kernel
theorem d_TrustDeskModel_addEnd_5 : decode kY_TrustDeskModel_addEnd.2.1 5 = .ok (.getfield 98, 3) := by decide +kernel
theorem f_TrustDeskModel_98_13 : mj_fl "TrustDeskModel" 98 13 43 := ⟨kR_TrustDeskModel, kF_TrustDeskModel, 72, "TrustDeskModel", rfl, kg_13, by decide, (mj_in1 (List.mem_of_getElem? (i := 1429) (by decide +kernel)) rfl), Or.inl rfl⟩
theorem d_TrustDeskModel_addEnd_8 : decode kY_TrustDeskModel_addEnd.2.1 8 = .ok (.iload_n 1, 1) := by decide +kernel
theorem d_TrustDeskModel_addEnd_9 : decode kY_TrustDeskModel_addEnd.2.1 9 = .ok (.iaload, 1) := by decide +kernel
theorem d_TrustDeskModel_addEnd_10 : decode kY_TrustDeskModel_addEnd.2.1 10 = .ok (.iadd, 1) := by decide +kernel
theorem d_TrustDeskModel_addEnd_11 : decode kY_TrustDeskModel_addEnd.2.1 11 = .ok (.istore 7, 2) := by decide +kernel
theorem d_TrustDeskModel_addEnd_13 : decode kY_TrustDeskModel_addEnd.2.1 13 = .ok (.aload_n 0, 1) := by decide +kernel
theorem d_TrustDeskModel_addEnd_14 : decode kY_TrustDeskModel_addEnd.2.1 14 = .ok (.getfield 101, 3) := by decide +kernel
theorem f_TrustDeskModel_101_13 : mj_fl "TrustDeskModel" 101 13 44 := ⟨kR_TrustDeskModel, kF_TrustDeskModel, 72, "TrustDeskModel", rfl, kg_13, by decide, (mj_in1 (List.mem_of_getElem? (i := 1430) (by decide +kernel)) rfl), Or.inl rfl⟩
theorem d_TrustDeskModel_addEnd_17 : decode kY_TrustDeskModel_addEnd.2.1 17 = .ok (.iload 7, 2) := by decide +kernel
theorem d_TrustDeskModel_addEnd_19 : decode kY_TrustDeskModel_addEnd.2.1 19 = .ok (.iload_n 2, 1) := by decide +kernel
theorem d_TrustDeskModel_addEnd_20 : decode kY_TrustDeskModel_addEnd.2.1 20 = .ok (.iastore, 1) := by decide +kernel
theorem d_TrustDeskModel_addEnd_21 : decode kY_TrustDeskModel_addEnd.2.1 21 = .ok (.aload_n 0, 1) := by decide +kernel
theorem d_TrustDeskModel_addEnd_22 : decode kY_TrustDeskModel_addEnd.2.1 22 = .ok (.getfield 104, 3) := by decide +kernel
theorem f_TrustDeskModel_104_13 : mj_fl "TrustDeskModel" 104 13 45 := ⟨kR_TrustDeskModel, kF_TrustDeskModel, 72, "TrustDeskModel", rfl, kg_13, by decide, (mj_in1 (List.mem_of_getElem? (i := 1431) (by decide +kernel)) rfl), Or.inl rfl⟩
theorem d_TrustDeskModel_addEnd_25 : decode kY_TrustDeskModel_addEnd.2.1 25 = .ok (.iload 7, 2) := by decide +kernel
theorem d_TrustDeskModel_addEnd_27 : decode kY_TrustDeskModel_addEnd.2.1 27 = .ok (.iload_n 3, 1) := by decide +kernel
theorem d_TrustDeskModel_addEnd_28 : decode kY_TrustDeskModel_addEnd.2.1 28 = .ok (.iastore, 1) := by decide +kernel
theorem d_TrustDeskModel_addEnd_29 : decode kY_TrustDeskModel_addEnd.2.1 29 = .ok (.aload_n 0, 1) := by decide +kernel
theorem d_TrustDeskModel_addEnd_30 : decode kY_TrustDeskModel_addEnd.2.1 30 = .ok (.getfield 107, 3) := by decide +kernel
theorem f_TrustDeskModel_107_13 : mj_fl "TrustDeskModel" 107 13 46 := ⟨kR_TrustDeskModel, kF_TrustDeskModel, 72, "TrustDeskModel", rfl, kg_13, by decide, (mj_in1 (List.mem_of_getElem? (i := 1432) (by decide +kernel)) rfl), Or.inl rfl⟩
theorem d_TrustDeskModel_addEnd_33 : decode kY_TrustDeskModel_addEnd.2.1 33 = .ok (.iload 7, 2) := by decide +kernel
theorem d_TrustDeskModel_addEnd_35 : decode kY_TrustDeskModel_addEnd.2.1 35 = .ok (.iload 4, 2) := by decide +kernel
theorem d_TrustDeskModel_addEnd_37 : decode kY_TrustDeskModel_addEnd.2.1 37 = .ok (.iastore, 1) := by decide +kernel
theorem d_TrustDeskModel_addEnd_38 : decode kY_TrustDeskModel_addEnd.2.1 38 = .ok (.aload_n 0, 1) := by decide +kernel
theorem d_TrustDeskModel_addEnd_39 : decode kY_TrustDeskModel_addEnd.2.1 39 = .ok (.getfield 110, 3) := by decide +kernel
theorem f_TrustDeskModel_110_13 : mj_fl "TrustDeskModel" 110 13 47 := ⟨kR_TrustDeskModel, kF_TrustDeskModel, 72, "TrustDeskModel", rfl, kg_13, by decide, (mj_in1 (List.mem_of_getElem? (i := 1433) (by decide +kernel)) rfl), Or.inl rfl⟩
theorem d_TrustDeskModel_addEnd_42 : decode kY_TrustDeskModel_addEnd.2.1 42 = .ok (.iload 7, 2) := by decide +kernel
theorem d_TrustDeskModel_addEnd_44 : decode kY_TrustDeskModel_addEnd.2.1 44 = .ok (.iload 5, 2) := by decide +kernel
theorem d_TrustDeskModel_addEnd_46 : decode kY_TrustDeskModel_addEnd.2.1 46 = .ok (.iastore, 1) := by decide +kernel
theorem d_TrustDeskModel_addEnd_47 : decode kY_TrustDeskModel_addEnd.2.1 47 = .ok (.aload_n 0, 1) := by decide +kernel
theorem d_TrustDeskModel_addEnd_48 : decode kY_TrustDeskModel_addEnd.2.1 48 = .ok (.getfield 113, 3) := by decide +kernel
theorem f_TrustDeskModel_113_13 : mj_fl "TrustDeskModel" 113 13 48 := ⟨kR_TrustDeskModel, kF_TrustDeskModel, 72, "TrustDeskModel", rfl, kg_13, by decide, (mj_in1 (List.mem_of_getElem? (i := 1434) (by decide +kernel)) rfl), Or.inl rfl⟩
theorem d_TrustDeskModel_addEnd_51 : decode kY_TrustDeskModel_addEnd.2.1 51 = .ok (.iload 7, 2) := by decide +kernel
theorem d_TrustDeskModel_addEnd_53 : decode kY_TrustDeskModel_addEnd.2.1 53 = .ok (.iload 6, 2) := by decide +kernel
theorem d_TrustDeskModel_addEnd_55 : decode kY_TrustDeskModel_addEnd.2.1 55 = .ok (.iastore, 1) := by decide +kernel
theorem d_TrustDeskModel_addEnd_56 : decode kY_TrustDeskModel_addEnd.2.1 56 = .ok (.aload_n 0, 1) := by decide +kernel
theorem d_TrustDeskModel_addEnd_57 : decode kY_TrustDeskModel_addEnd.2.1 57 = .ok (.getfield 98, 3) := by decide +kernel
theorem d_TrustDeskModel_addEnd_60 : decode kY_TrustDeskModel_addEnd.2.1 60 = .ok (.iload_n 1, 1) := by decide +kernel
theorem d_TrustDeskModel_addEnd_61 : decode kY_TrustDeskModel_addEnd.2.1 61 = .ok (.dup2, 1) := by decide +kernel
theorem d_TrustDeskModel_addEnd_62 : decode kY_TrustDeskModel_addEnd.2.1 62 = .ok (.iaload, 1) := by decide +kernel
theorem d_TrustDeskModel_addEnd_63 : decode kY_TrustDeskModel_addEnd.2.1 63 = .ok (.iconst 1, 1) := by decide +kernel
theorem d_TrustDeskModel_addEnd_64 : decode kY_TrustDeskModel_addEnd.2.1 64 = .ok (.iadd, 1) := by decide +kernel
theorem d_TrustDeskModel_addEnd_65 : decode kY_TrustDeskModel_addEnd.2.1 65 = .ok (.iastore, 1) := by decide +kernel
theorem d_TrustDeskModel_addEnd_66 : decode kY_TrustDeskModel_addEnd.2.1 66 = .ok (.return_, 1) := by decide +kernel
def w_TrustDeskModel_addEnd_x : List Nat := [20043, 20044, 20045, 20046, 20047, 20048]
set_option maxHeartbeats 100000000 in theorem tc_TrustDeskModel_addEnd_x {g : mj_G} {l : Launch} {d : Nat} {T0 : tm_H} {M0 : mj_M} {n0 x9 : Nat} {o0 : Nat} {x1 : Int32} {x2 : Int32} {x3 : Int32} {x4 : Int32} {x5 : Int32} {x6 : Int32} (h_o0 : T0 o0 = some (0, 13, 0)) (hn0 : 0 ≤ x1.toInt ∧ x1.toInt ≤ 11) (hn1 : 0 ≤ x2.toInt ∧ x2.toInt ≤ 43) (hn2 : 0 ≤ x3.toInt ∧ x3.toInt ≤ 899) (yR : rI M0 o0) (ya : ra M0 o0 43 x1.toNatClampNeg ≤ 71) (I0 : tm_I tm_FT (tm_in w_TrustDeskModel_addEnd_x) x9 T0 M0 n0 T0 M0 n0) : mj_Met g l kY_TrustDeskModel_addEnd d [.ref o0, .int x1, .int x2, .int x3, .int x4, .int x5, .int x6] M0 n0 0 0 (tm_Q tm_FT (tm_in w_TrustDeskModel_addEnd_x) x9 T0 M0 n0 (fun r _ M => r = none ∧ rI M o0 ∧ (rAd M0 M o0 x1.toNatClampNeg x2.toInt x3.toInt))) := by
  refine mj_enter (by decide) (Nat.le_of_ble_eq_true rfl) ?_
  have K1 : sA [43] M0 M0 o0 := sA.rf
  have K2 : sA [44] M0 M0 o0 := sA.rf
  have K3 : sA [45] M0 M0 o0 := sA.rf
  refine mv_bipush (v := 80) d_TrustDeskModel_addEnd_0 (by decide) ?_
  refine mv_iload_n d_TrustDeskModel_addEnd_2 rfl rfl ?_
  refine mv_imul d_TrustDeskModel_addEnd_3 ?_
  refine mv_aload_n d_TrustDeskModel_addEnd_4 rfl rfl ?_
  obtain ⟨a5, q4, t_a5⟩ := tm_atR I0 h_o0 (k := 43) rfl
  refine tr_getK q4 d_TrustDeskModel_addEnd_5 f_TrustDeskModel_98_13 ?_
  refine mv_iload_n d_TrustDeskModel_addEnd_8 rfl rfl ?_
  refine tr_ialdR (o := o0) (k := 43) I0 q4 t_a5 (by decide) d_TrustDeskModel_addEnd_9 (vp_in_iff.mpr (by omega)) (fun v6 e7 => ?_)
  have := yR.a (k := 43) rfl (x1 : Int32).toNatClampNeg
  refine mv_iadd d_TrustDeskModel_addEnd_10 ?_
  refine mv_istore (lv' := [(7, .int ((80 * x1) + v6)), (0, .ref o0), (1, .int x1), (2, .int x2), (3, .int x3), (4, .int x4), (5, .int x5), (6, .int x6)]) d_TrustDeskModel_addEnd_11 (by decide) rfl ?_
  refine mv_aload_n d_TrustDeskModel_addEnd_13 rfl rfl ?_
  obtain ⟨a9, q8, t_a9⟩ := tm_atR I0 h_o0 (k := 44) rfl
  refine tr_getK q8 d_TrustDeskModel_addEnd_14 f_TrustDeskModel_101_13 ?_
  refine mv_iload d_TrustDeskModel_addEnd_17 rfl ?_
  refine mv_iload_n d_TrustDeskModel_addEnd_19 rfl rfl ?_
  have b10 : (80 * x1 : Int32).toInt = (80 * x1.toInt) := mz_mul2 (by decide) rfl (by omega) (by omega)
  have b11 : ((80 * x1) + v6 : Int32).toInt = ((80 * x1.toInt) + v6.toInt) := mz_add2 b10 rfl (by omega) (by omega)
  refine tr_iastR (k := 44) I0 yR (I0.up h_o0) q8 t_a9 (by decide) (by decide) (fun lo hi h => by cases h; exact ⟨by show (0 : Int) ≤ x2.toInt; omega, by show x2.toInt ≤ (43 : Int); omega⟩) (Or.inl (by decide)) d_TrustDeskModel_addEnd_20 (vp_in_iff.mpr (by omega)) (fun M12 I13 K14 R15 E16 A17 V18 => ?_)
  have z19 := (A17 43 (by decide) rfl x1.toNatClampNeg)
  have K20 : sA [43] M0 M12 o0 := K1.trans (sA_a A17 (by decide +kernel))
  have K21 : sA [45] M0 M12 o0 := K3.trans (sA_a A17 (by decide +kernel))
  have K22 : ∀ i : Nat, ra M12 o0 44 i = if (i : Int) = 80 * x1.toNatClampNeg + ra M0 o0 43 x1.toNatClampNeg then x2.toInt else ra M0 o0 44 i := fun i => by have e9 := ad_of E16 (show ((((80 * x1) + v6)).toNatClampNeg : Int) = 80 * x1.toNatClampNeg + ra M0 o0 43 x1.toNatClampNeg by have := mz_nat9 (i := ((80 * x1) + v6)) (by omega); have := mz_nat9 (i := x1) (by omega); omega) i; have e8 := K2 44 rfl; rw [e8] at e9; exact e9
  refine mv_aload_n d_TrustDeskModel_addEnd_21 rfl rfl ?_
  obtain ⟨a24, q23, t_a24⟩ := tm_atR I13 h_o0 (k := 45) rfl
  refine tr_getK q23 d_TrustDeskModel_addEnd_22 f_TrustDeskModel_104_13 ?_
  refine mv_iload d_TrustDeskModel_addEnd_25 rfl ?_
  refine mv_iload_n d_TrustDeskModel_addEnd_27 rfl rfl ?_
  have b25 : (80 * x1 : Int32).toInt = (80 * x1.toInt) := mz_mul2 (by decide) rfl (by omega) (by omega)
  have b26 : ((80 * x1) + v6 : Int32).toInt = ((80 * x1.toInt) + v6.toInt) := mz_add2 b25 rfl (by omega) (by omega)
  refine tr_iastR (k := 45) I13 R15 (I13.up h_o0) q23 t_a24 (by decide) (by decide) (fun lo hi h => by cases h; exact ⟨by show (0 : Int) ≤ x3.toInt; omega, by show x3.toInt ≤ (899 : Int); omega⟩) (Or.inl (by decide)) d_TrustDeskModel_addEnd_28 (vp_in_iff.mpr (by omega)) (fun M27 I28 K29 R30 E31 A32 V33 => ?_)
  have z34 := (A32 43 (by decide) rfl x1.toNatClampNeg).trans z19
  have K35 : sA [43] M0 M27 o0 := K20.trans (sA_a A32 (by decide +kernel))
  have K36 : ∀ i : Nat, ra M27 o0 44 i = if (i : Int) = 80 * x1.toNatClampNeg + ra M0 o0 43 x1.toNatClampNeg then x2.toInt else ra M0 o0 44 i := (by have e9 := ((sA_a A32 (by decide +kernel)) : sA [44] _ _ _) 44 rfl; rw [e9]; exact K22)
  have K37 : ∀ i : Nat, ra M27 o0 45 i = if (i : Int) = 80 * x1.toNatClampNeg + ra M0 o0 43 x1.toNatClampNeg then x3.toInt else ra M0 o0 45 i := fun i => by have e9 := ad_of E31 (show ((((80 * x1) + v6)).toNatClampNeg : Int) = 80 * x1.toNatClampNeg + ra M0 o0 43 x1.toNatClampNeg by have := mz_nat9 (i := ((80 * x1) + v6)) (by omega); have := mz_nat9 (i := x1) (by omega); omega) i; have e8 := K21 45 rfl; rw [e8] at e9; exact e9
  clear z19
  refine mv_aload_n d_TrustDeskModel_addEnd_29 rfl rfl ?_
  obtain ⟨a39, q38, t_a39⟩ := tm_atR I28 h_o0 (k := 46) rfl
  refine tr_getK q38 d_TrustDeskModel_addEnd_30 f_TrustDeskModel_107_13 ?_
  refine mv_iload d_TrustDeskModel_addEnd_33 rfl ?_
  refine mv_iload d_TrustDeskModel_addEnd_35 rfl ?_
  have b40 : (80 * x1 : Int32).toInt = (80 * x1.toInt) := mz_mul2 (by decide) rfl (by omega) (by omega)
  have b41 : ((80 * x1) + v6 : Int32).toInt = ((80 * x1.toInt) + v6.toInt) := mz_add2 b40 rfl (by omega) (by omega)
  refine tr_iastR (k := 46) I28 R30 (I28.up h_o0) q38 t_a39 (by decide) (by decide) (fun lo hi h => by cases h) (Or.inl (by decide)) d_TrustDeskModel_addEnd_37 (vp_in_iff.mpr (by omega)) (fun M42 I43 K44 R45 E46 A47 V48 => ?_)
  have z49 := (A47 43 (by decide) rfl x1.toNatClampNeg).trans z34
  have K50 : sA [43] M0 M42 o0 := K35.trans (sA_a A47 (by decide +kernel))
  have K51 : ∀ i : Nat, ra M42 o0 44 i = if (i : Int) = 80 * x1.toNatClampNeg + ra M0 o0 43 x1.toNatClampNeg then x2.toInt else ra M0 o0 44 i := (by have e9 := ((sA_a A47 (by decide +kernel)) : sA [44] _ _ _) 44 rfl; rw [e9]; exact K36)
  have K52 : ∀ i : Nat, ra M42 o0 45 i = if (i : Int) = 80 * x1.toNatClampNeg + ra M0 o0 43 x1.toNatClampNeg then x3.toInt else ra M0 o0 45 i := (by have e9 := ((sA_a A47 (by decide +kernel)) : sA [45] _ _ _) 45 rfl; rw [e9]; exact K37)
  clear z34
  refine mv_aload_n d_TrustDeskModel_addEnd_38 rfl rfl ?_
  obtain ⟨a54, q53, t_a54⟩ := tm_atR I43 h_o0 (k := 47) rfl
  refine tr_getK q53 d_TrustDeskModel_addEnd_39 f_TrustDeskModel_110_13 ?_
  refine mv_iload d_TrustDeskModel_addEnd_42 rfl ?_
  refine mv_iload d_TrustDeskModel_addEnd_44 rfl ?_
  have b55 : (80 * x1 : Int32).toInt = (80 * x1.toInt) := mz_mul2 (by decide) rfl (by omega) (by omega)
  have b56 : ((80 * x1) + v6 : Int32).toInt = ((80 * x1.toInt) + v6.toInt) := mz_add2 b55 rfl (by omega) (by omega)
  refine tr_iastR (k := 47) I43 R45 (I43.up h_o0) q53 t_a54 (by decide) (by decide) (fun lo hi h => by cases h) (Or.inl (by decide)) d_TrustDeskModel_addEnd_46 (vp_in_iff.mpr (by omega)) (fun M57 I58 K59 R60 E61 A62 V63 => ?_)
  have z64 := (A62 43 (by decide) rfl x1.toNatClampNeg).trans z49
  have K65 : sA [43] M0 M57 o0 := K50.trans (sA_a A62 (by decide +kernel))
  have K66 : ∀ i : Nat, ra M57 o0 44 i = if (i : Int) = 80 * x1.toNatClampNeg + ra M0 o0 43 x1.toNatClampNeg then x2.toInt else ra M0 o0 44 i := (by have e9 := ((sA_a A62 (by decide +kernel)) : sA [44] _ _ _) 44 rfl; rw [e9]; exact K51)
  have K67 : ∀ i : Nat, ra M57 o0 45 i = if (i : Int) = 80 * x1.toNatClampNeg + ra M0 o0 43 x1.toNatClampNeg then x3.toInt else ra M0 o0 45 i := (by have e9 := ((sA_a A62 (by decide +kernel)) : sA [45] _ _ _) 45 rfl; rw [e9]; exact K52)
  clear z49
  refine mv_aload_n d_TrustDeskModel_addEnd_47 rfl rfl ?_
  obtain ⟨a69, q68, t_a69⟩ := tm_atR I58 h_o0 (k := 48) rfl
  refine tr_getK q68 d_TrustDeskModel_addEnd_48 f_TrustDeskModel_113_13 ?_
  refine mv_iload d_TrustDeskModel_addEnd_51 rfl ?_
  refine mv_iload d_TrustDeskModel_addEnd_53 rfl ?_
  have b70 : (80 * x1 : Int32).toInt = (80 * x1.toInt) := mz_mul2 (by decide) rfl (by omega) (by omega)
  have b71 : ((80 * x1) + v6 : Int32).toInt = ((80 * x1.toInt) + v6.toInt) := mz_add2 b70 rfl (by omega) (by omega)
  refine tr_iastR (k := 48) I58 R60 (I58.up h_o0) q68 t_a69 (by decide) (by decide) (fun lo hi h => by cases h) (Or.inl (by decide)) d_TrustDeskModel_addEnd_55 (vp_in_iff.mpr (by omega)) (fun M72 I73 K74 R75 E76 A77 V78 => ?_)
  have z79 := (A77 43 (by decide) rfl x1.toNatClampNeg).trans z64
  have K80 : sA [43] M0 M72 o0 := K65.trans (sA_a A77 (by decide +kernel))
  have K81 : ∀ i : Nat, ra M72 o0 44 i = if (i : Int) = 80 * x1.toNatClampNeg + ra M0 o0 43 x1.toNatClampNeg then x2.toInt else ra M0 o0 44 i := (by have e9 := ((sA_a A77 (by decide +kernel)) : sA [44] _ _ _) 44 rfl; rw [e9]; exact K66)
  have K82 : ∀ i : Nat, ra M72 o0 45 i = if (i : Int) = 80 * x1.toNatClampNeg + ra M0 o0 43 x1.toNatClampNeg then x3.toInt else ra M0 o0 45 i := (by have e9 := ((sA_a A77 (by decide +kernel)) : sA [45] _ _ _) 45 rfl; rw [e9]; exact K67)
  clear z64
  refine mv_aload_n d_TrustDeskModel_addEnd_56 rfl rfl ?_
  refine tr_getK (k := 43) (K74 _ 13 43 _ (K59 _ 13 43 _ (K44 _ 13 43 _ (K29 _ 13 43 _ (K14 _ 13 43 _ q4))))) d_TrustDeskModel_addEnd_57 f_TrustDeskModel_98_13 ?_
  refine mv_iload_n d_TrustDeskModel_addEnd_60 rfl rfl ?_
  refine mv_dup2_11 d_TrustDeskModel_addEnd_61 rfl rfl ?_
  refine tr_ialdR (o := o0) (k := 43) I73 (K74 _ 13 43 _ (K59 _ 13 43 _ (K44 _ 13 43 _ (K29 _ 13 43 _ (K14 _ 13 43 _ q4))))) t_a5 (by decide) d_TrustDeskModel_addEnd_62 (vp_in_iff.mpr (by omega)) (fun v83 e84 => ?_)
  have := R75.a (k := 43) rfl (x1 : Int32).toNatClampNeg
  have : v83.toInt = _ := Eq.trans e84 z79
  refine mv_iconst (v := 1) d_TrustDeskModel_addEnd_63 (by decide) ?_
  refine mv_iadd d_TrustDeskModel_addEnd_64 ?_
  have b85 : (v83 + 1 : Int32).toInt = (v83.toInt + 1) := mz_add2 rfl (by decide) (by omega) (by omega)
  refine tr_iastR (k := 43) I73 R75 (I73.up h_o0) (K74 _ 13 43 _ (K59 _ 13 43 _ (K44 _ 13 43 _ (K29 _ 13 43 _ (K14 _ 13 43 _ q4))))) t_a5 (by decide) (by decide) (fun lo hi h => by cases h; exact ⟨by show (0 : Int) ≤ (v83 + 1).toInt; omega, by show (v83 + 1).toInt ≤ (72 : Int); omega⟩) (Or.inl (by decide)) d_TrustDeskModel_addEnd_65 (vp_in_iff.mpr (by omega)) (fun M86 I87 K88 R89 E90 A91 V92 => ?_)
  have K93 : ∀ i : Nat, ra M86 o0 44 i = if (i : Int) = 80 * x1.toNatClampNeg + ra M0 o0 43 x1.toNatClampNeg then x2.toInt else ra M0 o0 44 i := (by have e9 := ((sA_a A91 (by decide +kernel)) : sA [44] _ _ _) 44 rfl; rw [e9]; exact K81)
  have K94 : ∀ i : Nat, ra M86 o0 45 i = if (i : Int) = 80 * x1.toNatClampNeg + ra M0 o0 43 x1.toNatClampNeg then x3.toInt else ra M0 o0 45 i := (by have e9 := ((sA_a A91 (by decide +kernel)) : sA [45] _ _ _) 45 rfl; rw [e9]; exact K82)
  have K95 : ∀ i : Nat, ra M86 o0 43 i = if i = x1.toNatClampNeg then ra M0 o0 43 x1.toNatClampNeg + 1 else ra M0 o0 43 i := fun i => by have e9 := K80 43 rfl; rw [E90 i, e9]; by_cases h9 : i = x1.toNatClampNeg; (rw [if_pos h9, if_pos h9]; omega); (rw [if_neg h9, if_neg h9])
  exact mv_vret d_TrustDeskModel_addEnd_66 rfl ⟨_, I87, rfl, R89, ⟨K93, K94, K95⟩⟩
