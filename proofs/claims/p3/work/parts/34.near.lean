abbrev kY_TrustDeskModel_near : mj_Y := (⟨"TrustDeskModel", "near", "(I)I"⟩, prog_14_method_56_code, 3, (Option.some Jvm.ClassFile.FieldType.int))
theorem d_TrustDeskModel_near_0 : decode kY_TrustDeskModel_near.2.1 0 = .ok (.aload_n 0, 1) := by decide +kernel
theorem d_TrustDeskModel_near_1 : decode kY_TrustDeskModel_near.2.1 1 = .ok (.iconst 0, 1) := by decide +kernel
theorem d_TrustDeskModel_near_2 : decode kY_TrustDeskModel_near.2.1 2 = .ok (.putfield 1, 3) := by decide +kernel
theorem d_TrustDeskModel_near_5 : decode kY_TrustDeskModel_near.2.1 5 = .ok (.iload_n 1, 1) := by decide +kernel
theorem d_TrustDeskModel_near_6 : decode kY_TrustDeskModel_near.2.1 6 = .ok (.i2l, 1) := by decide +kernel
theorem d_TrustDeskModel_near_7 : decode kY_TrustDeskModel_near.2.1 7 = .ok (.lconst 0, 1) := by decide +kernel
theorem d_TrustDeskModel_near_8 : decode kY_TrustDeskModel_near.2.1 8 = .ok (.ldc2_w 433, 3) := by decide +kernel
theorem k_TrustDeskModel_433 : Cond.constantLong "TrustDeskModel" 433 255 ∈ mj_T := (mj_in1 (List.mem_of_getElem? (i := 1825) (by decide +kernel)) rfl)
theorem d_TrustDeskModel_near_11 : decode kY_TrustDeskModel_near.2.1 11 = .ok (.invokestatic 169, 3) := by decide +kernel
theorem d_TrustDeskModel_near_14 : decode kY_TrustDeskModel_near.2.1 14 = .ok (.ifCond .eq 12, 3) := by decide +kernel
theorem d_TrustDeskModel_near_26 : decode kY_TrustDeskModel_near.2.1 26 = .ok (.iconst (-1), 1) := by decide +kernel
theorem d_TrustDeskModel_near_27 : decode kY_TrustDeskModel_near.2.1 27 = .ok (.ireturn, 1) := by decide +kernel
theorem d_TrustDeskModel_near_17 : decode kY_TrustDeskModel_near.2.1 17 = .ok (.aload_n 0, 1) := by decide +kernel
theorem d_TrustDeskModel_near_18 : decode kY_TrustDeskModel_near.2.1 18 = .ok (.getfield 435, 3) := by decide +kernel
theorem f_TrustDeskModel_435_13 : mj_fl "TrustDeskModel" 435 13 49 := ⟨kR_TrustDeskModel, kF_TrustDeskModel, 72, "TrustDeskModel", rfl, kg_13, by decide, (mj_in1 (List.mem_of_getElem? (i := 1435) (by decide +kernel)) rfl), Or.inl rfl⟩
theorem d_TrustDeskModel_near_21 : decode kY_TrustDeskModel_near.2.1 21 = .ok (.bipush 12, 2) := by decide +kernel
theorem d_TrustDeskModel_near_23 : decode kY_TrustDeskModel_near.2.1 23 = .ok (.if_icmp .ne 5, 3) := by decide +kernel
theorem d_TrustDeskModel_near_28 : decode kY_TrustDeskModel_near.2.1 28 = .ok (.aload_n 0, 1) := by decide +kernel
theorem d_TrustDeskModel_near_29 : decode kY_TrustDeskModel_near.2.1 29 = .ok (.iconst 0, 1) := by decide +kernel
theorem d_TrustDeskModel_near_30 : decode kY_TrustDeskModel_near.2.1 30 = .ok (.invokevirtual 381, 3) := by decide +kernel
theorem d_TrustDeskModel_near_33 : decode kY_TrustDeskModel_near.2.1 33 = .ok (.aload_n 0, 1) := by decide +kernel
theorem d_TrustDeskModel_near_34 : decode kY_TrustDeskModel_near.2.1 34 = .ok (.ldc_w 336, 3) := by decide +kernel
theorem d_TrustDeskModel_near_37 : decode kY_TrustDeskModel_near.2.1 37 = .ok (.invokevirtual 244, 3) := by decide +kernel
theorem d_TrustDeskModel_near_40 : decode kY_TrustDeskModel_near.2.1 40 = .ok (.ifCond .eq 10, 3) := by decide +kernel
theorem d_TrustDeskModel_near_50 : decode kY_TrustDeskModel_near.2.1 50 = .ok (.aload_n 0, 1) := by decide +kernel
theorem d_TrustDeskModel_near_51 : decode kY_TrustDeskModel_near.2.1 51 = .ok (.iconst 1, 1) := by decide +kernel
theorem d_TrustDeskModel_near_52 : decode kY_TrustDeskModel_near.2.1 52 = .ok (.invokevirtual 240, 3) := by decide +kernel
theorem d_TrustDeskModel_near_55 : decode kY_TrustDeskModel_near.2.1 55 = .ok (.aload_n 0, 1) := by decide +kernel
theorem d_TrustDeskModel_near_56 : decode kY_TrustDeskModel_near.2.1 56 = .ok (.invokevirtual 230, 3) := by decide +kernel
theorem d_TrustDeskModel_near_59 : decode kY_TrustDeskModel_near.2.1 59 = .ok (.ifCond .eq 15, 3) := by decide +kernel
theorem d_TrustDeskModel_near_74 : decode kY_TrustDeskModel_near.2.1 74 = .ok (.aload_n 0, 1) := by decide +kernel
theorem d_TrustDeskModel_near_75 : decode kY_TrustDeskModel_near.2.1 75 = .ok (.bipush 32, 2) := by decide +kernel
theorem d_TrustDeskModel_near_77 : decode kY_TrustDeskModel_near.2.1 77 = .ok (.aload_n 0, 1) := by decide +kernel
theorem d_TrustDeskModel_near_78 : decode kY_TrustDeskModel_near.2.1 78 = .ok (.getfield 435, 3) := by decide +kernel
theorem d_TrustDeskModel_near_81 : decode kY_TrustDeskModel_near.2.1 81 = .ok (.iadd, 1) := by decide +kernel
theorem d_TrustDeskModel_near_82 : decode kY_TrustDeskModel_near.2.1 82 = .ok (.invokevirtual 388, 3) := by decide +kernel
theorem d_TrustDeskModel_near_85 : decode kY_TrustDeskModel_near.2.1 85 = .ok (.istore_n 2, 1) := by decide +kernel
theorem d_TrustDeskModel_near_86 : decode kY_TrustDeskModel_near.2.1 86 = .ok (.iload_n 2, 1) := by decide +kernel
theorem d_TrustDeskModel_near_87 : decode kY_TrustDeskModel_near.2.1 87 = .ok (.ifCond .ge 5, 3) := by decide +kernel
theorem d_TrustDeskModel_near_92 : decode kY_TrustDeskModel_near.2.1 92 = .ok (.aload_n 0, 1) := by decide +kernel
theorem d_TrustDeskModel_near_93 : decode kY_TrustDeskModel_near.2.1 93 = .ok (.getfield 116, 3) := by decide +kernel
theorem f_TrustDeskModel_116_13 : mj_fl "TrustDeskModel" 116 13 50 := ⟨kR_TrustDeskModel, kF_TrustDeskModel, 72, "TrustDeskModel", rfl, kg_13, by decide, (mj_in1 (List.mem_of_getElem? (i := 1436) (by decide +kernel)) rfl), Or.inl rfl⟩
theorem d_TrustDeskModel_near_96 : decode kY_TrustDeskModel_near.2.1 96 = .ok (.aload_n 0, 1) := by decide +kernel
theorem d_TrustDeskModel_near_97 : decode kY_TrustDeskModel_near.2.1 97 = .ok (.getfield 435, 3) := by decide +kernel
theorem d_TrustDeskModel_near_100 : decode kY_TrustDeskModel_near.2.1 100 = .ok (.iload_n 1, 1) := by decide +kernel
theorem d_TrustDeskModel_near_101 : decode kY_TrustDeskModel_near.2.1 101 = .ok (.iastore, 1) := by decide +kernel
theorem d_TrustDeskModel_near_102 : decode kY_TrustDeskModel_near.2.1 102 = .ok (.aload_n 0, 1) := by decide +kernel
theorem d_TrustDeskModel_near_103 : decode kY_TrustDeskModel_near.2.1 103 = .ok (.dup, 1) := by decide +kernel
theorem d_TrustDeskModel_near_104 : decode kY_TrustDeskModel_near.2.1 104 = .ok (.getfield 435, 3) := by decide +kernel
theorem d_TrustDeskModel_near_107 : decode kY_TrustDeskModel_near.2.1 107 = .ok (.iconst 1, 1) := by decide +kernel
theorem d_TrustDeskModel_near_108 : decode kY_TrustDeskModel_near.2.1 108 = .ok (.iadd, 1) := by decide +kernel
theorem d_TrustDeskModel_near_109 : decode kY_TrustDeskModel_near.2.1 109 = .ok (.putfield 435, 3) := by decide +kernel
theorem p_TrustDeskModel_435_13 : mj_fp "TrustDeskModel" 435 13 49 (kt_TrustDeskModel 49) false := ⟨kR_TrustDeskModel, kF_TrustDeskModel, 72, "TrustDeskModel", kt_TrustDeskModel, rfl, kg_13, by decide, (mj_in1 (List.mem_of_getElem? (i := 1435) (by decide +kernel)) rfl), Or.inl rfl, kto_TrustDeskModel, kn_TrustDeskModel, rfl, rfl, fun h => by cases h⟩
theorem d_TrustDeskModel_near_112 : decode kY_TrustDeskModel_near.2.1 112 = .ok (.aload_n 0, 1) := by decide +kernel
theorem d_TrustDeskModel_near_113 : decode kY_TrustDeskModel_near.2.1 113 = .ok (.getfield 435, 3) := by decide +kernel
theorem d_TrustDeskModel_near_116 : decode kY_TrustDeskModel_near.2.1 116 = .ok (.iconst 1, 1) := by decide +kernel
theorem d_TrustDeskModel_near_117 : decode kY_TrustDeskModel_near.2.1 117 = .ok (.isub, 1) := by decide +kernel
theorem d_TrustDeskModel_near_118 : decode kY_TrustDeskModel_near.2.1 118 = .ok (.ireturn, 1) := by decide +kernel
theorem d_TrustDeskModel_near_90 : decode kY_TrustDeskModel_near.2.1 90 = .ok (.iload_n 2, 1) := by decide +kernel
theorem d_TrustDeskModel_near_91 : decode kY_TrustDeskModel_near.2.1 91 = .ok (.ireturn, 1) := by decide +kernel
theorem d_TrustDeskModel_near_43 : decode kY_TrustDeskModel_near.2.1 43 = .ok (.aload_n 0, 1) := by decide +kernel
theorem d_TrustDeskModel_near_44 : decode kY_TrustDeskModel_near.2.1 44 = .ok (.invokevirtual 425, 3) := by decide +kernel
theorem lV_TrustDeskModel_425 : mj_lV "TrustDeskModel" 425 kY_TrustDeskModel_readClause 0 := ⟨⟨(mj_in1 (List.mem_of_getElem? (i := 1795) (by decide +kernel)) rfl), (mj_in1 (List.mem_of_getElem? (i := 10) (by decide +kernel)) rfl), (mj_in1 (List.mem_of_getElem? (i := 1798) (by decide +kernel)) rfl), by decide, rfl, by decide⟩, (mj_in1 (List.mem_of_getElem? (i := 1797) (by decide +kernel)) rfl), (mj_in (List.mem_append_left _ (List.mem_of_getElem? (i := 106) (by decide +kernel))) rfl)⟩
theorem d_TrustDeskModel_near_47 : decode kY_TrustDeskModel_near.2.1 47 = .ok (.goto 8, 3) := by decide +kernel
theorem d_TrustDeskModel_near_62 : decode kY_TrustDeskModel_near.2.1 62 = .ok (.aload_n 0, 1) := by decide +kernel
theorem d_TrustDeskModel_near_63 : decode kY_TrustDeskModel_near.2.1 63 = .ok (.getfield 198, 3) := by decide +kernel
theorem d_TrustDeskModel_near_66 : decode kY_TrustDeskModel_near.2.1 66 = .ok (.ifCond .eq 8, 3) := by decide +kernel
theorem d_TrustDeskModel_near_69 : decode kY_TrustDeskModel_near.2.1 69 = .ok (.aload_n 0, 1) := by decide +kernel
theorem d_TrustDeskModel_near_70 : decode kY_TrustDeskModel_near.2.1 70 = .ok (.iconst 1, 1) := by decide +kernel
theorem d_TrustDeskModel_near_71 : decode kY_TrustDeskModel_near.2.1 71 = .ok (.invokevirtual 240, 3) := by decide +kernel
def w_TrustDeskModel_near_x : List Nat := [1300, 1314, 1315, 1316, 1317, 1318, 1319, 1320, 1321, 1322, 1323, 1324, 1349, 20004, 20005, 20006, 20007, 20008, 20009, 20010, 20011, 20012, 20025, 20026, 20050]
set_option maxHeartbeats 100000000 in theorem tc_TrustDeskModel_near_x {g : mj_G} {l : Launch} {d : Nat} {T0 : tm_H} {M0 : mj_M} {n0 x9 : Nat} {o0 : Nat} {x1 : Int32} (h_o0 : T0 o0 = some (0, 13, 0)) (yR : rI M0 o0) (yC : rC M0 o0 44) (I0 : tm_I tm_FT (tm_in w_TrustDeskModel_near_x) x9 T0 M0 n0 T0 M0 n0) : mj_Met g l kY_TrustDeskModel_near (d + 27) [.ref o0, .int x1] M0 n0 0 0 (tm_Q tm_FT (tm_in w_TrustDeskModel_near_x) x9 T0 M0 n0 (fun r _ M => ∃ v : Int32, r = some (.int v) ∧ rI M o0 ∧ (rC M o0 44) ∧ (rv M0 o0 49 ≤ rv M o0 49))) := by
  refine mj_enter (by decide) (Nat.le_of_ble_eq_true rfl) ?_
  have K1 : rC M0 o0 44 := yC
  refine mv_aload_n d_TrustDeskModel_near_0 rfl rfl ?_
  refine mv_iconst (v := 0) d_TrustDeskModel_near_1 (by decide) ?_
  refine tr_putR (k := 0) I0 yR h_o0 rfl ⟨_, rfl⟩ (fun _ h => by cases h) rfl (fun lo hi h => by cases h) (Or.inl (by decide)) d_TrustDeskModel_near_2 p_TrustDeskModel_1_13 rfl rfl (fun M2 I3 q4 K5 R6 A7 V8 => ?_)
  have z9 := (V8 15 (by decide))
  have z10 := (V8 16 (by decide))
  have z11 := (V8 17 (by decide))
  have z12 := (V8 19 (by decide))
  have z13 := (V8 22 (by decide))
  have z14 := (V8 24 (by decide))
  have z15 := (V8 27 (by decide))
  have z16 := (V8 32 (by decide))
  have z17 := (V8 49 (by decide))
  have z18 := (A7 5 (by decide) 44)
  have z19 := (A7 6 (by decide) 44)
  have K20 : rC M2 o0 44 := K1.same (sA_f A7 (by decide)) (sF_f V8 (by decide))
  refine mv_iload_n d_TrustDeskModel_near_5 rfl rfl ?_
  refine mv_i2l (v := x1.toInt64) d_TrustDeskModel_near_6 rfl ?_
  refine mv_lconst (v := 0) d_TrustDeskModel_near_7 (by decide) ?_
  refine mv_ldc2 d_TrustDeskModel_near_8 k_TrustDeskModel_433 ?_
  refine mv_callS (kc1 := 0) (ks1 := 0) (kc' := 0) (ks' := 0) (As := [.long x1.toInt64, .long 0, .long 255]) (st9 := [.long 255, .long 0, .long x1.toInt64]) d_TrustDeskModel_near_11 lS_TrustDeskModel_169 (mj_enter (by decide) (Nat.le_of_ble_eq_true rfl) ?_) rfl (Nat.le_of_ble_eq_true rfl) (Nat.le_of_ble_eq_true rfl) (Nat.le_of_ble_eq_true rfl) (hst := rfl) (fun _ _ _ h => h)
  refine mv_lload_n d_TrustDeskModel_within_0 rfl rfl ?_
  refine mv_lload_n d_TrustDeskModel_within_1 rfl rfl ?_
  refine mv_lltZ (tgt := 17) (a := x1.toInt) (b := 0) d_TrustDeskModel_within_2 d_TrustDeskModel_within_3 (by decide) (mz_wide _) (by decide) (fun b21 => ?_) (fun b21 => ?_)
  · refine mv_iconst (v := 0) d_TrustDeskModel_within_17 (by decide) ?_
    refine mv_iret d_TrustDeskModel_within_18 rfl (by decide) ?_
    refine mv_if_eq_t (tgt := 26) d_TrustDeskModel_near_14 (by decide) (by decide) ?_
    refine mv_iconst (v := (-1)) d_TrustDeskModel_near_26 (by decide) ?_
    exact mv_iret d_TrustDeskModel_near_27 rfl (by first | rfl | decide) ⟨_, I3, _, rfl, R6, K20, (by have := R6.1 15 _ _ rfl; have := R6.1 16 _ _ rfl; have := R6.1 19 _ _ rfl; omega)⟩
  · refine mv_lload_n d_TrustDeskModel_within_6 rfl rfl ?_
    refine mv_lload d_TrustDeskModel_within_7 rfl ?_
    refine mv_lgtZ (tgt := 17) (a := x1.toInt) (b := 255) d_TrustDeskModel_within_9 d_TrustDeskModel_within_10 (by decide) (mz_wide _) (by decide) (fun b22 => ?_) (fun b22 => ?_)
    · refine mv_iconst (v := 0) d_TrustDeskModel_within_17 (by decide) ?_
      refine mv_iret d_TrustDeskModel_within_18 rfl (by decide) ?_
      refine mv_if_eq_t (tgt := 26) d_TrustDeskModel_near_14 (by decide) (by decide) ?_
      refine mv_iconst (v := (-1)) d_TrustDeskModel_near_26 (by decide) ?_
      exact mv_iret d_TrustDeskModel_near_27 rfl (by first | rfl | decide) ⟨_, I3, _, rfl, R6, K20, (by have := R6.1 15 _ _ rfl; have := R6.1 16 _ _ rfl; have := R6.1 19 _ _ rfl; omega)⟩
    · refine mv_iconst (v := 1) d_TrustDeskModel_within_13 (by decide) ?_
      refine mv_goto (tgt := 18) d_TrustDeskModel_within_14 (by decide) ?_
      refine mv_iret d_TrustDeskModel_within_18 rfl (by decide) ?_
      refine mv_if_eq_f (tgt := 26) d_TrustDeskModel_near_14 (by decide) (by decide) ?_
      refine mv_aload_n d_TrustDeskModel_near_17 rfl rfl ?_
      obtain ⟨v24, q23⟩ := tm_atI I3 h_o0 (k := 49) rfl
      refine tr_getK q23 d_TrustDeskModel_near_18 f_TrustDeskModel_435_13 ?_
      have := R6.f (k := 49) q23 rfl
      have := (tm_rv q23).symm.trans z17
      have := tm_rv q23
      refine mv_bipush (v := 12) d_TrustDeskModel_near_21 (by decide) ?_
      have := mz_hi v24
      refine mv_icmp_neZ (tgt := 28) (a := v24.toInt) (b := 12) d_TrustDeskModel_near_23 (by decide) rfl (by decide) (fun b25 => ?_) (fun b25 => ?_)
      · refine mv_aload_n d_TrustDeskModel_near_28 rfl rfl ?_
        refine mv_iconst (v := 0) d_TrustDeskModel_near_29 (by decide) ?_
        obtain ⟨_, b32, -⟩ := I3.1 _ _ h_o0
        have : (0 : Int32).toInt = 0 := by decide
        refine mv_callV (kc' := 0) (ks' := 0) (As := [.int 0]) (st9 := [.int 0, .ref o0]) d_TrustDeskModel_near_30 lV_TrustDeskModel_381 b32 rfl (tc_TrustDeskModel_starts_x (d := (d + 24)) (x9 := x9) (o0 := o0) (x1 := 0) h_o0 (by decide) R6 I3.start) rfl (Nat.le_of_ble_eq_true rfl) (Nat.le_of_ble_eq_true rfl) (Nat.le_of_ble_eq_true rfl) (hst := rfl) (fun b26r M27 n28 b26 => ?_)
        obtain ⟨T29, J30, rfl, R33, f34, f35, f36, f37, f38, f39⟩ := b26
        have I31 := I3.call J30 (tm_sub (by decide)) (Or.inl rfl)
        have t40 := J30.up h_o0
        have z41 := (rv_c I3 J30 (I3.up h_o0) (k := 27) rfl).trans z15
        have z42 := (rv_c I3 J30 (I3.up h_o0) (k := 32) rfl).trans z16
        have z43 := (rv_c I3 J30 (I3.up h_o0) (k := 49) rfl).trans z17
        have K44 : rC M27 o0 44 := K20.same (sA_c I3 J30 (I3.up h_o0) (by decide +kernel)) (sF_c I3 J30 (I3.up h_o0) (by decide +kernel))
        have K45 : rW M27 o0 := rW.start f34 R33 f38 f39 f37
        clear z15 z16 z17
        have q46 := J30.keep h_o0 (by decide) q4
        have q47 := J30.keep h_o0 (by decide) q23
        refine mv_aload_n d_TrustDeskModel_near_33 rfl rfl ?_
        refine mv_ldcSw (id := 42) (tx := "end") d_TrustDeskModel_near_34 (List.mem_of_getElem? (i := 32) rfl) ?_
        obtain ⟨_, b54, -⟩ := I31.1 _ _ t40
        refine mv_callV (kc' := 0) (ks' := 0) (As := [.ref 42]) (st9 := [.ref 42, .ref o0]) d_TrustDeskModel_near_37 lV_TrustDeskModel_244 b54 rfl (tc_TrustDeskModel_isWord_s1_42_x (d := (d + 22)) (x9 := x9) (o0 := o0) t40 R33 I31.start) rfl (Nat.le_of_ble_eq_true rfl) (Nat.le_of_ble_eq_true rfl) (Nat.le_of_ble_eq_true rfl) (hst := rfl) (fun b48r M49 n50 b48 => ?_)
        obtain ⟨T51, J52, v55, rfl, b56, b57, R58, f59, f60, f61⟩ := b48
        have I53 := I31.call J52 (tm_sub (by decide)) (Or.inl rfl)
        have t62 := J52.up t40
        replace f59 := Im.i f59
        replace f60 := Im.i f60
        replace f61 := Im.i f61
        have z63 := (rv_c I31 J52 (I31.up h_o0) (k := 15) rfl)
        have z64 := (rv_c I31 J52 (I31.up h_o0) (k := 16) rfl)
        have z65 := (rv_c I31 J52 (I31.up h_o0) (k := 17) rfl)
        have z66 := (rv_c I31 J52 (I31.up h_o0) (k := 19) rfl)
        have z67 := (rv_c I31 J52 (I31.up h_o0) (k := 22) rfl)
        have z68 := (rv_c I31 J52 (I31.up h_o0) (k := 24) rfl)
        have z69 := (rv_c I31 J52 (I31.up h_o0) (k := 27) rfl).trans z41
        have z70 := (rv_c I31 J52 (I31.up h_o0) (k := 32) rfl).trans z42
        have z71 := (rv_c I31 J52 (I31.up h_o0) (k := 49) rfl).trans z43
        have z72 := (ra_call I31 J52 (I31.up h_o0) (k := 5) rfl rfl rfl 44)
        have z73 := (ra_call I31 J52 (I31.up h_o0) (k := 6) rfl rfl rfl 44)
        have K74 : rC M49 o0 44 := K44.same (sA_c I31 J52 (I31.up h_o0) (by decide +kernel)) (sF_c I31 J52 (I31.up h_o0) (by decide +kernel))
        have K75 : rW M49 o0 := K45.same (sA_c I31 J52 (I31.up h_o0) (by decide +kernel)) (sF_c I31 J52 (I31.up h_o0) (by decide +kernel))
        have K76 : v55.toInt = 1 → rwE M49 o0 := (fun h9 => (f60.o h9).same (sA_c I31 J52 (I31.up h_o0) (by decide)) (sF_c I31 J52 (I31.up h_o0) (by decide)))
        clear z41 z42 z43
        have q77 := J52.keep t40 (by decide) q46
        have q78 := J52.keep t40 (by decide) q47
        have := mz_hi v55
        refine mv_if_eqZ (tgt := 50) (a := v55.toInt) d_TrustDeskModel_near_40 (by decide) rfl (fun b79 => ?_) (fun b79 => ?_)
        · refine mv_aload_n d_TrustDeskModel_near_50 rfl rfl ?_
          refine mv_iconst (v := 1) d_TrustDeskModel_near_51 (by decide) ?_
          obtain ⟨_, b86, -⟩ := I53.1 _ _ t62
          have : (1 : Int32).toInt = 1 := by decide
          refine mv_callV (kc' := 0) (ks' := 0) (As := [.int 1]) (st9 := [.int 1, .ref o0]) d_TrustDeskModel_near_52 lV_TrustDeskModel_240 b86 rfl (tc_TrustDeskModel_fails_x (d := (d + 26)) (x9 := x9) (o0 := o0) (x1 := 1) t62 R58 (by decide) I53.start) rfl (Nat.le_of_ble_eq_true rfl) (Nat.le_of_ble_eq_true rfl) (Nat.le_of_ble_eq_true rfl) (hst := rfl) (fun b80r M81 n82 b80 => ?_)
          obtain ⟨T83, J84, rfl, R87, f88⟩ := b80
          have I85 := I53.call J84 (tm_sub (by decide)) (Or.inl rfl)
          have t89 := J84.up t62
          have z90 := (rv_c I53 J84 (I53.up h_o0) (k := 15) rfl).trans z63
          have z91 := (rv_c I53 J84 (I53.up h_o0) (k := 16) rfl).trans z64
          have z92 := (rv_c I53 J84 (I53.up h_o0) (k := 17) rfl).trans z65
          have z93 := (rv_c I53 J84 (I53.up h_o0) (k := 22) rfl).trans z67
          have z94 := (rv_c I53 J84 (I53.up h_o0) (k := 24) rfl).trans z68
          have z95 := (rv_c I53 J84 (I53.up h_o0) (k := 27) rfl).trans z69
          have z96 := (rv_c I53 J84 (I53.up h_o0) (k := 32) rfl).trans z70
          have z97 := (rv_c I53 J84 (I53.up h_o0) (k := 49) rfl).trans z71
          have z98 := (ra_call I53 J84 (I53.up h_o0) (k := 5) rfl rfl rfl 44).trans z72
          have z99 := (ra_call I53 J84 (I53.up h_o0) (k := 6) rfl rfl rfl 44).trans z73
          have K100 : rC M81 o0 44 := K74.same (sA_c I53 J84 (I53.up h_o0) (by decide +kernel)) (sF_c I53 J84 (I53.up h_o0) (by decide +kernel))
          have K101 : rW M81 o0 := K75.fail (sF_c I53 J84 (I53.up h_o0) (by decide)) f88
          have K102 : v55.toInt = 1 → rwE M81 o0 := (fun h9 => (K76 h9).same (sA_c I53 J84 (I53.up h_o0) (by decide +kernel)) (sF_c I53 J84 (I53.up h_o0) (by decide +kernel)))
          have K103 : rv M81 o0 19 = 0 → ra M81 o0 7 880 = 8 ∧ ra M81 o0 6 44 = 1 := (fun h9 => absurd h9 f88)
          clear z63 z64 z65 z67 z68 z69 z70 z71 z72 z73
          have q104 := J84.keep t62 (by decide) q77
          have q105 := J84.keep t62 (by decide) q78
          refine mv_aload_n d_TrustDeskModel_near_55 rfl rfl ?_
          obtain ⟨_, b106, -⟩ := I85.1 _ _ t89
          refine mv_callV (kc1 := 0) (ks1 := 0) (kc' := 0) (ks' := 0) (As := []) (st9 := [.ref o0]) d_TrustDeskModel_near_56 lV_TrustDeskModel_230 b106 rfl (mj_enter (by decide) (Nat.le_of_ble_eq_true rfl) ?_) rfl (Nat.le_of_ble_eq_true rfl) (Nat.le_of_ble_eq_true rfl) (Nat.le_of_ble_eq_true rfl) (hst := rfl) (fun _ _ _ h => h)
          refine mv_aload_n d_TrustDeskModel_isWell_0 rfl rfl ?_
          obtain ⟨v108, q107⟩ := tm_atI I85 t89 (k := 19) rfl
          refine tr_getK q107 d_TrustDeskModel_isWell_1 f_TrustDeskModel_224_13 ?_
          have := R87.f (k := 19) q107 rfl
          have := tm_rv q107
          refine mv_if_neZ (tgt := 11) (a := v108.toInt) d_TrustDeskModel_isWell_4 (by decide) rfl (fun b109 => ?_) (fun b109 => ?_)
          · refine mv_iconst (v := 0) d_TrustDeskModel_isWell_11 (by decide) ?_
            refine mv_iret d_TrustDeskModel_isWell_12 rfl (by decide) ?_
            refine mv_if_eq_t (tgt := 74) d_TrustDeskModel_near_59 (by decide) (by decide) ?_
            refine mv_aload_n d_TrustDeskModel_near_74 rfl rfl ?_
            refine mv_bipush (v := 32) d_TrustDeskModel_near_75 (by decide) ?_
            refine mv_aload_n d_TrustDeskModel_near_77 rfl rfl ?_
            refine tr_getK (k := 49) q105 d_TrustDeskModel_near_78 f_TrustDeskModel_435_13 ?_
            refine mv_iadd d_TrustDeskModel_near_81 ?_
            obtain ⟨_, b116, -⟩ := I85.1 _ _ t89
            have b117 : (32 + v24 : Int32).toInt = (32 + v24.toInt) := mz_add2 (by decide) rfl (by have := R87.1 15 _ _ rfl; have := R87.1 16 _ _ rfl; have := R87.1 19 _ _ rfl; omega) (by have := R87.1 15 _ _ rfl; have := R87.1 16 _ _ rfl; have := R87.1 19 _ _ rfl; omega)
            refine mv_callV (kc' := 0) (ks' := 0) (As := [.int (32 + v24)]) (st9 := [.int (32 + v24), .ref o0]) d_TrustDeskModel_near_82 lV_TrustDeskModel_388 b116 rfl (tc_TrustDeskModel_stops_x (d := (d + 25)) (x9 := x9) (o0 := o0) (x1 := (32 + v24)) t89 R87 (by have := R87.1 15 _ _ rfl; have := R87.1 16 _ _ rfl; have := R87.1 19 _ _ rfl; omega) I85.start) rfl (Nat.le_of_ble_eq_true rfl) (Nat.le_of_ble_eq_true rfl) (Nat.le_of_ble_eq_true rfl) (hst := rfl) (fun b110r M111 n112 b110 => ?_)
            obtain ⟨T113, J114, v118, rfl, R119, f120, f121⟩ := b110
            have I115 := I85.call J114 (tm_sub (by decide)) (Or.inl rfl)
            have t122 := J114.up t89
            replace f120 := Im.i f120
            replace f121 := Im.i f121
            have z123 := (rv_c I85 J114 (I85.up h_o0) (k := 15) rfl).trans z90
            have z124 := (rv_c I85 J114 (I85.up h_o0) (k := 16) rfl).trans z91
            have z125 := (rv_c I85 J114 (I85.up h_o0) (k := 17) rfl).trans z92
            have z126 := (rv_c I85 J114 (I85.up h_o0) (k := 19) rfl)
            have z127 := (rv_c I85 J114 (I85.up h_o0) (k := 22) rfl).trans z93
            have z128 := (rv_c I85 J114 (I85.up h_o0) (k := 24) rfl).trans z94
            have z129 := (rv_c I85 J114 (I85.up h_o0) (k := 27) rfl).trans z95
            have z130 := (rv_c I85 J114 (I85.up h_o0) (k := 32) rfl).trans z96
            have z131 := (rv_c I85 J114 (I85.up h_o0) (k := 49) rfl).trans z97
            have K132 : v55.toInt = 1 → rwE M111 o0 := (fun h9 => (K102 h9).same (sA_c I85 J114 (I85.up h_o0) (by decide +kernel)) (sF_c I85 J114 (I85.up h_o0) (by decide +kernel)))
            have K133 : (v118.toInt < 0 → rC M111 o0 44) ∧ (0 ≤ v118.toInt → rC M111 o0 ((32 + v24).toNatClampNeg)) := rC.st K100 R87 K101 (by have := mz_nat9 (i := (32 + v24)) (by have := R87.1 15 _ _ rfl; have := R87.1 16 _ _ rfl; have := R87.1 19 _ _ rfl; omega); have := R87.1 15 _ _ rfl; have := R87.1 16 _ _ rfl; have := R87.1 19 _ _ rfl; omega) (by unfold rU; have := mz_nat9 (i := (32 + v24)) (by have := R87.1 15 _ _ rfl; have := R87.1 16 _ _ rfl; have := R87.1 19 _ _ rfl; omega); have := R87.1 15 _ _ rfl; have := R87.1 16 _ _ rfl; have := R87.1 19 _ _ rfl; omega) f120 f121 (sA_c I85 J114 (I85.up h_o0) (by decide)) (sF_c I85 J114 (I85.up h_o0) (by decide))
            have K134 : 0 ≤ v118.toInt → ra M111 o0 7 (20 * (32 + v24).toNatClampNeg) = 8 := k8_of f120 f121 K103
            clear z90 z91 z92 z93 z94 z95 z96 z97
            have q135 := J114.keep t89 (by decide) q104
            have q136 := J114.keep t89 (by decide) q105
            have q137 := J114.keep t89 (by decide) q107
            refine mv_istore_n (lv' := [(2, .int v118), (0, .ref o0), (1, .int x1)]) d_TrustDeskModel_near_85 rfl (by decide) rfl ?_
            refine mv_iload_n d_TrustDeskModel_near_86 rfl rfl ?_
            have := mz_hi v118
            refine mv_if_geZ (tgt := 92) (a := v118.toInt) d_TrustDeskModel_near_87 (by decide) rfl (fun b138 => ?_) (fun b138 => ?_)
            · have K139 : rC M111 o0 ((32 + v24).toNatClampNeg) := K133.2 (by omega)
              refine mv_aload_n d_TrustDeskModel_near_92 rfl rfl ?_
              obtain ⟨a141, q140, t_a141⟩ := tm_atR I115 t122 (k := 50) rfl
              refine tr_getK q140 d_TrustDeskModel_near_93 f_TrustDeskModel_116_13 ?_
              refine mv_aload_n d_TrustDeskModel_near_96 rfl rfl ?_
              refine tr_getK (k := 49) q136 d_TrustDeskModel_near_97 f_TrustDeskModel_435_13 ?_
              refine mv_iload_n d_TrustDeskModel_near_100 rfl rfl ?_
              refine tr_iastR (k := 50) I115 R119 (I115.up h_o0) q140 t_a141 (by decide) (by decide) (fun lo hi h => by cases h) (Or.inl (by decide)) d_TrustDeskModel_near_101 (vp_in_iff.mpr (by have := R119.1 15 _ _ rfl; have := R119.1 16 _ _ rfl; have := R119.1 19 _ _ rfl; omega)) (fun M142 I143 K144 R145 E146 A147 V148 => ?_)
              have z149 := (V148 15).trans z123
              have z150 := (V148 16).trans z124
              have z151 := (V148 17).trans z125
              have z152 := (V148 19).trans z126
              have z153 := (V148 22).trans z127
              have z154 := (V148 24).trans z128
              have z155 := (V148 27).trans z129
              have z156 := (V148 32).trans z130
              have z157 := (V148 49).trans z131
              have z158 := (A147 5 (by decide) rfl 44)
              have z159 := (A147 6 (by decide) rfl 44)
              have K160 : v55.toInt = 1 → rwE M142 o0 := (fun h9 => (K132 h9).same (sA_a A147 (by decide +kernel)) (sF_a V148))
              have K161 : 0 ≤ v118.toInt → ra M142 o0 7 (20 * (32 + v24).toNatClampNeg) = 8 := (by have e1 := ((sA_a A147 (by decide +kernel)) : sA [7] _ _ _) 7 rfl; rw [e1]; exact K134)
              have K162 : rC M142 o0 ((32 + v24).toNatClampNeg) := K139.same (sA_a A147 (by decide +kernel)) (sF_a V148)
              clear z123 z124 z125 z127 z128 z129 z130 z131
              refine mv_aload_n d_TrustDeskModel_near_102 rfl rfl ?_
              refine mv_dup d_TrustDeskModel_near_103 rfl ?_
              refine tr_getK (k := 49) (K144 _ 13 49 _ q136) d_TrustDeskModel_near_104 f_TrustDeskModel_435_13 ?_
              refine mv_iconst (v := 1) d_TrustDeskModel_near_107 (by decide) ?_
              refine mv_iadd d_TrustDeskModel_near_108 ?_
              have b163 : (v24 + 1 : Int32).toInt = (v24.toInt + 1) := mz_add2 rfl (by decide) (by have := R145.1 15 _ _ rfl; have := R145.1 16 _ _ rfl; have := R145.1 19 _ _ rfl; omega) (by have := R145.1 15 _ _ rfl; have := R145.1 16 _ _ rfl; have := R145.1 19 _ _ rfl; omega)
              refine tr_putR (k := 49) I143 R145 t122 rfl ⟨_, rfl⟩ (fun _ h => by cases h) rfl (fun lo hi h => by cases h; have := R145.1 15 _ _ rfl; have := R145.1 16 _ _ rfl; have := R145.1 19 _ _ rfl; exact ⟨by show (0 : Int) ≤ (v24 + 1).toInt; omega, by show (v24 + 1).toInt ≤ (12 : Int); omega⟩) (Or.inl (by decide)) d_TrustDeskModel_near_109 p_TrustDeskModel_435_13 rfl rfl (fun M164 I165 q166 K167 R168 A169 V170 => ?_)
              have z171 := (V170 15 (by decide)).trans z149
              have z172 := (V170 16 (by decide)).trans z150
              have z173 := (V170 17 (by decide)).trans z151
              have z174 := (V170 19 (by decide)).trans z152
              have z175 := (V170 22 (by decide)).trans z153
              have z176 := (V170 24 (by decide)).trans z154
              have z177 := (V170 27 (by decide)).trans z155
              have z178 := (V170 32 (by decide)).trans z156
              have z179 := (A169 5 (by decide) 44).trans z158
              have z180 := (A169 6 (by decide) 44).trans z159
              have z181 : rv M164 o0 49 = (v24 + 1).toInt := tm_rv q166
              have K182 : v55.toInt = 1 → rwE M164 o0 := (fun h9 => (K160 h9).same (sA_f A169 (by decide)) (sF_f V170 (by decide)))
              have K183 : 0 ≤ v118.toInt → ra M164 o0 7 (20 * (32 + v24).toNatClampNeg) = 8 := (by have e1 := ((sA_f A169 (by decide)) : sA [7] _ _ _) 7 rfl; rw [e1]; exact K161)
              have K184 : rC M164 o0 44 := rC.near K162 A169 V170 (by have := mz_nat9 (i := (32 + v24)) (by have := R145.1 15 _ _ rfl; have := R145.1 16 _ _ rfl; have := R145.1 19 _ _ rfl; omega); have := R145.1 15 _ _ rfl; have := R145.1 16 _ _ rfl; have := R145.1 19 _ _ rfl; omega) (by have := R145.1 15 _ _ rfl; have := R145.1 16 _ _ rfl; have := R145.1 19 _ _ rfl; omega) (by have := R145.1 15 _ _ rfl; have := R145.1 16 _ _ rfl; have := R145.1 19 _ _ rfl; omega) (K161 (by omega))
              clear z149 z150 z151 z153 z154 z155 z156 z158 z159
              refine mv_aload_n d_TrustDeskModel_near_112 rfl rfl ?_
              refine tr_getK (k := 49) q166 d_TrustDeskModel_near_113 f_TrustDeskModel_435_13 ?_
              refine mv_iconst (v := 1) d_TrustDeskModel_near_116 (by decide) ?_
              refine mv_isubv (v := v24) d_TrustDeskModel_near_117 (Int32.add_sub_cancel _ _) ?_
              exact mv_iret d_TrustDeskModel_near_118 rfl (by first | rfl | decide) ⟨_, I165, _, rfl, R168, K184, (by have := R168.1 15 _ _ rfl; have := R168.1 16 _ _ rfl; have := R168.1 19 _ _ rfl; omega)⟩
            · have K185 : rC M111 o0 44 := K133.1 (by omega)
              refine mv_iload_n d_TrustDeskModel_near_90 rfl rfl ?_
              exact mv_iret d_TrustDeskModel_near_91 rfl (by first | rfl | decide) ⟨_, I115, _, rfl, R119, K185, (by have := R119.1 15 _ _ rfl; have := R119.1 16 _ _ rfl; have := R119.1 19 _ _ rfl; omega)⟩
          · exfalso
            have := R87.1 15 _ _ rfl; have := R87.1 16 _ _ rfl; have := R87.1 19 _ _ rfl; omega
        · refine mv_aload_n d_TrustDeskModel_near_43 rfl rfl ?_
          obtain ⟨_, b192, -⟩ := I53.1 _ _ t62
          refine mv_callV (kc' := 0) (ks' := 0) (As := []) (st9 := [.ref o0]) d_TrustDeskModel_near_44 lV_TrustDeskModel_425 b192 rfl (tc_TrustDeskModel_readClause_x (d := d) (x9 := x9) (o0 := o0) t62 R58 K75 (by have := R58.1 15 _ _ rfl; have := R58.1 16 _ _ rfl; have := R58.1 19 _ _ rfl; omega) (by have := f59.o (by omega); omega) (by have := R58.1 15 _ _ rfl; have := R58.1 16 _ _ rfl; have := R58.1 19 _ _ rfl; omega) (by have := R58.1 15 _ _ rfl; have := R58.1 16 _ _ rfl; have := R58.1 19 _ _ rfl; omega) I53.start) rfl (Nat.le_of_ble_eq_true rfl) (Nat.le_of_ble_eq_true rfl) (Nat.le_of_ble_eq_true rfl) (hst := rfl) (fun b186r M187 n188 b186 => ?_)
          obtain ⟨T189, J190, rfl, R193, f194, f195, f196, f197, f198, f199⟩ := b186
          have I191 := I53.call J190 (tm_sub (by decide)) (Or.inl rfl)
          have t200 := J190.up t62
          replace f197 := Im.i f197
          replace f198 := Im.i f198
          have z201 := (rv_c I53 J190 (I53.up h_o0) (k := 27) rfl).trans z69
          have z202 := (rv_c I53 J190 (I53.up h_o0) (k := 32) rfl).trans z70
          have z203 := (rv_c I53 J190 (I53.up h_o0) (k := 49) rfl).trans z71
          have K204 : rC M187 o0 44 := K74.rO R58 f195 (sA_c I53 J190 (I53.up h_o0) (by decide)) (sF_c I53 J190 (I53.up h_o0) (by decide))
          have K205 : rW M187 o0 := f194
          have h206 : (880 + ra M49 o0 6 44).toNat = 880 := by omega
          rw [h206] at f198
          have K207 : rv M187 o0 19 = 0 → ra M187 o0 7 880 = 8 ∧ ra M187 o0 6 44 = 1 := (fun h9 => ⟨(f198.o (K76 (by omega)) h9).1, by have := (f198.o (K76 (by omega)) h9).2; omega⟩)
          clear z69 z70 z71
          have q208 := J190.keep t62 (by decide) q77
          have q209 := J190.keep t62 (by decide) q78
          refine mv_goto (tgt := 55) d_TrustDeskModel_near_47 (by decide) ?_
          refine mv_aload_n d_TrustDeskModel_near_55 rfl rfl ?_
          obtain ⟨_, b210, -⟩ := I191.1 _ _ t200
          refine mv_callV (kc1 := 0) (ks1 := 0) (kc' := 0) (ks' := 0) (As := []) (st9 := [.ref o0]) d_TrustDeskModel_near_56 lV_TrustDeskModel_230 b210 rfl (mj_enter (by decide) (Nat.le_of_ble_eq_true rfl) ?_) rfl (Nat.le_of_ble_eq_true rfl) (Nat.le_of_ble_eq_true rfl) (Nat.le_of_ble_eq_true rfl) (hst := rfl) (fun _ _ _ h => h)
          refine mv_aload_n d_TrustDeskModel_isWell_0 rfl rfl ?_
          obtain ⟨v212, q211⟩ := tm_atI I191 t200 (k := 19) rfl
          refine tr_getK q211 d_TrustDeskModel_isWell_1 f_TrustDeskModel_224_13 ?_
          have := R193.f (k := 19) q211 rfl
          have := tm_rv q211
          have := mz_hi v212
          refine mv_if_neZ (tgt := 11) (a := v212.toInt) d_TrustDeskModel_isWell_4 (by decide) rfl (fun b213 => ?_) (fun b213 => ?_)
          · refine mv_iconst (v := 0) d_TrustDeskModel_isWell_11 (by decide) ?_
            refine mv_iret d_TrustDeskModel_isWell_12 rfl (by decide) ?_
            refine mv_if_eq_t (tgt := 74) d_TrustDeskModel_near_59 (by decide) (by decide) ?_
            refine mv_aload_n d_TrustDeskModel_near_74 rfl rfl ?_
            refine mv_bipush (v := 32) d_TrustDeskModel_near_75 (by decide) ?_
            refine mv_aload_n d_TrustDeskModel_near_77 rfl rfl ?_
            refine tr_getK (k := 49) q209 d_TrustDeskModel_near_78 f_TrustDeskModel_435_13 ?_
            refine mv_iadd d_TrustDeskModel_near_81 ?_
            obtain ⟨_, b220, -⟩ := I191.1 _ _ t200
            have b221 : (32 + v24 : Int32).toInt = (32 + v24.toInt) := mz_add2 (by decide) rfl (by have := R193.1 15 _ _ rfl; have := R193.1 16 _ _ rfl; have := R193.1 19 _ _ rfl; omega) (by have := R193.1 15 _ _ rfl; have := R193.1 16 _ _ rfl; have := R193.1 19 _ _ rfl; omega)
            refine mv_callV (kc' := 0) (ks' := 0) (As := [.int (32 + v24)]) (st9 := [.int (32 + v24), .ref o0]) d_TrustDeskModel_near_82 lV_TrustDeskModel_388 b220 rfl (tc_TrustDeskModel_stops_x (d := (d + 25)) (x9 := x9) (o0 := o0) (x1 := (32 + v24)) t200 R193 (by have := R193.1 15 _ _ rfl; have := R193.1 16 _ _ rfl; have := R193.1 19 _ _ rfl; omega) I191.start) rfl (Nat.le_of_ble_eq_true rfl) (Nat.le_of_ble_eq_true rfl) (Nat.le_of_ble_eq_true rfl) (hst := rfl) (fun b214r M215 n216 b214 => ?_)
            obtain ⟨T217, J218, v222, rfl, R223, f224, f225⟩ := b214
            have I219 := I191.call J218 (tm_sub (by decide)) (Or.inl rfl)
            have t226 := J218.up t200
            replace f224 := Im.i f224
            replace f225 := Im.i f225
            have z227 := (rv_c I191 J218 (I191.up h_o0) (k := 15) rfl)
            have z228 := (rv_c I191 J218 (I191.up h_o0) (k := 16) rfl)
            have z229 := (rv_c I191 J218 (I191.up h_o0) (k := 17) rfl)
            have z230 := (rv_c I191 J218 (I191.up h_o0) (k := 19) rfl)
            have z231 := (rv_c I191 J218 (I191.up h_o0) (k := 22) rfl)
            have z232 := (rv_c I191 J218 (I191.up h_o0) (k := 24) rfl)
            have z233 := (rv_c I191 J218 (I191.up h_o0) (k := 27) rfl).trans z201
            have z234 := (rv_c I191 J218 (I191.up h_o0) (k := 32) rfl).trans z202
            have z235 := (rv_c I191 J218 (I191.up h_o0) (k := 49) rfl).trans z203
            have K236 : (v222.toInt < 0 → rC M215 o0 44) ∧ (0 ≤ v222.toInt → rC M215 o0 ((32 + v24).toNatClampNeg)) := rC.st K204 R193 K205 (by have := mz_nat9 (i := (32 + v24)) (by have := R193.1 15 _ _ rfl; have := R193.1 16 _ _ rfl; have := R193.1 19 _ _ rfl; omega); have := R193.1 15 _ _ rfl; have := R193.1 16 _ _ rfl; have := R193.1 19 _ _ rfl; omega) (by unfold rU; have := mz_nat9 (i := (32 + v24)) (by have := R193.1 15 _ _ rfl; have := R193.1 16 _ _ rfl; have := R193.1 19 _ _ rfl; omega); have := R193.1 15 _ _ rfl; have := R193.1 16 _ _ rfl; have := R193.1 19 _ _ rfl; omega) f224 f225 (sA_c I191 J218 (I191.up h_o0) (by decide)) (sF_c I191 J218 (I191.up h_o0) (by decide))
            have K237 : 0 ≤ v222.toInt → ra M215 o0 7 (20 * (32 + v24).toNatClampNeg) = 8 := k8_of f224 f225 K207
            clear z201 z202 z203
            have q238 := J218.keep t200 (by decide) q208
            have q239 := J218.keep t200 (by decide) q209
            have q240 := J218.keep t200 (by decide) q211
            refine mv_istore_n (lv' := [(2, .int v222), (0, .ref o0), (1, .int x1)]) d_TrustDeskModel_near_85 rfl (by decide) rfl ?_
            refine mv_iload_n d_TrustDeskModel_near_86 rfl rfl ?_
            have := mz_hi v222
            refine mv_if_geZ (tgt := 92) (a := v222.toInt) d_TrustDeskModel_near_87 (by decide) rfl (fun b241 => ?_) (fun b241 => ?_)
            · have K242 : rC M215 o0 ((32 + v24).toNatClampNeg) := K236.2 (by omega)
              refine mv_aload_n d_TrustDeskModel_near_92 rfl rfl ?_
              obtain ⟨a244, q243, t_a244⟩ := tm_atR I219 t226 (k := 50) rfl
              refine tr_getK q243 d_TrustDeskModel_near_93 f_TrustDeskModel_116_13 ?_
              refine mv_aload_n d_TrustDeskModel_near_96 rfl rfl ?_
              refine tr_getK (k := 49) q239 d_TrustDeskModel_near_97 f_TrustDeskModel_435_13 ?_
              refine mv_iload_n d_TrustDeskModel_near_100 rfl rfl ?_
              refine tr_iastR (k := 50) I219 R223 (I219.up h_o0) q243 t_a244 (by decide) (by decide) (fun lo hi h => by cases h) (Or.inl (by decide)) d_TrustDeskModel_near_101 (vp_in_iff.mpr (by have := R223.1 15 _ _ rfl; have := R223.1 16 _ _ rfl; have := R223.1 19 _ _ rfl; omega)) (fun M245 I246 K247 R248 E249 A250 V251 => ?_)
              have z252 := (V251 15).trans z227
              have z253 := (V251 16).trans z228
              have z254 := (V251 17).trans z229
              have z255 := (V251 19).trans z230
              have z256 := (V251 22).trans z231
              have z257 := (V251 24).trans z232
              have z258 := (V251 27).trans z233
              have z259 := (V251 32).trans z234
              have z260 := (V251 49).trans z235
              have z261 := (A250 5 (by decide) rfl 44)
              have z262 := (A250 6 (by decide) rfl 44)
              have K263 : 0 ≤ v222.toInt → ra M245 o0 7 (20 * (32 + v24).toNatClampNeg) = 8 := (by have e1 := ((sA_a A250 (by decide +kernel)) : sA [7] _ _ _) 7 rfl; rw [e1]; exact K237)
              have K264 : rC M245 o0 ((32 + v24).toNatClampNeg) := K242.same (sA_a A250 (by decide +kernel)) (sF_a V251)
              clear z227 z228 z229 z231 z232 z233 z234 z235
              refine mv_aload_n d_TrustDeskModel_near_102 rfl rfl ?_
              refine mv_dup d_TrustDeskModel_near_103 rfl ?_
              refine tr_getK (k := 49) (K247 _ 13 49 _ q239) d_TrustDeskModel_near_104 f_TrustDeskModel_435_13 ?_
              refine mv_iconst (v := 1) d_TrustDeskModel_near_107 (by decide) ?_
              refine mv_iadd d_TrustDeskModel_near_108 ?_
              have b265 : (v24 + 1 : Int32).toInt = (v24.toInt + 1) := mz_add2 rfl (by decide) (by have := R248.1 15 _ _ rfl; have := R248.1 16 _ _ rfl; have := R248.1 19 _ _ rfl; omega) (by have := R248.1 15 _ _ rfl; have := R248.1 16 _ _ rfl; have := R248.1 19 _ _ rfl; omega)
              refine tr_putR (k := 49) I246 R248 t226 rfl ⟨_, rfl⟩ (fun _ h => by cases h) rfl (fun lo hi h => by cases h; have := R248.1 15 _ _ rfl; have := R248.1 16 _ _ rfl; have := R248.1 19 _ _ rfl; exact ⟨by show (0 : Int) ≤ (v24 + 1).toInt; omega, by show (v24 + 1).toInt ≤ (12 : Int); omega⟩) (Or.inl (by decide)) d_TrustDeskModel_near_109 p_TrustDeskModel_435_13 rfl rfl (fun M266 I267 q268 K269 R270 A271 V272 => ?_)
              have z273 := (V272 15 (by decide)).trans z252
              have z274 := (V272 16 (by decide)).trans z253
              have z275 := (V272 17 (by decide)).trans z254
              have z276 := (V272 19 (by decide)).trans z255
              have z277 := (V272 22 (by decide)).trans z256
              have z278 := (V272 24 (by decide)).trans z257
              have z279 := (V272 27 (by decide)).trans z258
              have z280 := (V272 32 (by decide)).trans z259
              have z281 := (A271 5 (by decide) 44).trans z261
              have z282 := (A271 6 (by decide) 44).trans z262
              have z283 : rv M266 o0 49 = (v24 + 1).toInt := tm_rv q268
              have K284 : 0 ≤ v222.toInt → ra M266 o0 7 (20 * (32 + v24).toNatClampNeg) = 8 := (by have e1 := ((sA_f A271 (by decide)) : sA [7] _ _ _) 7 rfl; rw [e1]; exact K263)
              have K285 : rC M266 o0 44 := rC.near K264 A271 V272 (by have := mz_nat9 (i := (32 + v24)) (by have := R248.1 15 _ _ rfl; have := R248.1 16 _ _ rfl; have := R248.1 19 _ _ rfl; omega); have := R248.1 15 _ _ rfl; have := R248.1 16 _ _ rfl; have := R248.1 19 _ _ rfl; omega) (by have := R248.1 15 _ _ rfl; have := R248.1 16 _ _ rfl; have := R248.1 19 _ _ rfl; omega) (by have := R248.1 15 _ _ rfl; have := R248.1 16 _ _ rfl; have := R248.1 19 _ _ rfl; omega) (K263 (by omega))
              clear z252 z253 z254 z256 z257 z258 z259 z261 z262
              refine mv_aload_n d_TrustDeskModel_near_112 rfl rfl ?_
              refine tr_getK (k := 49) q268 d_TrustDeskModel_near_113 f_TrustDeskModel_435_13 ?_
              refine mv_iconst (v := 1) d_TrustDeskModel_near_116 (by decide) ?_
              refine mv_isubv (v := v24) d_TrustDeskModel_near_117 (Int32.add_sub_cancel _ _) ?_
              exact mv_iret d_TrustDeskModel_near_118 rfl (by first | rfl | decide) ⟨_, I267, _, rfl, R270, K285, (by have := R270.1 15 _ _ rfl; have := R270.1 16 _ _ rfl; have := R270.1 19 _ _ rfl; omega)⟩
            · have K286 : rC M215 o0 44 := K236.1 (by omega)
              refine mv_iload_n d_TrustDeskModel_near_90 rfl rfl ?_
              exact mv_iret d_TrustDeskModel_near_91 rfl (by first | rfl | decide) ⟨_, I219, _, rfl, R223, K286, (by have := R223.1 15 _ _ rfl; have := R223.1 16 _ _ rfl; have := R223.1 19 _ _ rfl; omega)⟩
          · refine mv_iconst (v := 1) d_TrustDeskModel_isWell_7 (by decide) ?_
            refine mv_goto (tgt := 12) d_TrustDeskModel_isWell_8 (by decide) ?_
            refine mv_iret d_TrustDeskModel_isWell_12 rfl (by decide) ?_
            refine mv_if_eq_f (tgt := 74) d_TrustDeskModel_near_59 (by decide) (by decide) ?_
            refine mv_aload_n d_TrustDeskModel_near_62 rfl rfl ?_
            obtain ⟨v288, q287⟩ := tm_atI I191 t200 (k := 17) rfl
            refine tr_getK q287 d_TrustDeskModel_near_63 f_TrustDeskModel_198_13 ?_
            have := tm_rv q287
            have := mz_hi v288
            refine mv_if_eqZ (tgt := 74) (a := v288.toInt) d_TrustDeskModel_near_66 (by decide) rfl (fun b289 => ?_) (fun b289 => ?_)
            · refine mv_aload_n d_TrustDeskModel_near_74 rfl rfl ?_
              refine mv_bipush (v := 32) d_TrustDeskModel_near_75 (by decide) ?_
              refine mv_aload_n d_TrustDeskModel_near_77 rfl rfl ?_
              refine tr_getK (k := 49) q209 d_TrustDeskModel_near_78 f_TrustDeskModel_435_13 ?_
              refine mv_iadd d_TrustDeskModel_near_81 ?_
              obtain ⟨_, b296, -⟩ := I191.1 _ _ t200
              have b297 : (32 + v24 : Int32).toInt = (32 + v24.toInt) := mz_add2 (by decide) rfl (by have := R193.1 15 _ _ rfl; have := R193.1 16 _ _ rfl; have := R193.1 19 _ _ rfl; omega) (by have := R193.1 15 _ _ rfl; have := R193.1 16 _ _ rfl; have := R193.1 19 _ _ rfl; omega)
              refine mv_callV (kc' := 0) (ks' := 0) (As := [.int (32 + v24)]) (st9 := [.int (32 + v24), .ref o0]) d_TrustDeskModel_near_82 lV_TrustDeskModel_388 b296 rfl (tc_TrustDeskModel_stops_x (d := (d + 25)) (x9 := x9) (o0 := o0) (x1 := (32 + v24)) t200 R193 (by have := R193.1 15 _ _ rfl; have := R193.1 16 _ _ rfl; have := R193.1 19 _ _ rfl; omega) I191.start) rfl (Nat.le_of_ble_eq_true rfl) (Nat.le_of_ble_eq_true rfl) (Nat.le_of_ble_eq_true rfl) (hst := rfl) (fun b290r M291 n292 b290 => ?_)
              obtain ⟨T293, J294, v298, rfl, R299, f300, f301⟩ := b290
              have I295 := I191.call J294 (tm_sub (by decide)) (Or.inl rfl)
              have t302 := J294.up t200
              replace f300 := Im.i f300
              replace f301 := Im.i f301
              have z303 := (rv_c I191 J294 (I191.up h_o0) (k := 15) rfl)
              have z304 := (rv_c I191 J294 (I191.up h_o0) (k := 16) rfl)
              have z305 := (rv_c I191 J294 (I191.up h_o0) (k := 17) rfl)
              have z306 := (rv_c I191 J294 (I191.up h_o0) (k := 19) rfl)
              have z307 := (rv_c I191 J294 (I191.up h_o0) (k := 22) rfl)
              have z308 := (rv_c I191 J294 (I191.up h_o0) (k := 24) rfl)
              have z309 := (rv_c I191 J294 (I191.up h_o0) (k := 27) rfl).trans z201
              have z310 := (rv_c I191 J294 (I191.up h_o0) (k := 32) rfl).trans z202
              have z311 := (rv_c I191 J294 (I191.up h_o0) (k := 49) rfl).trans z203
              have K312 : (v298.toInt < 0 → rC M291 o0 44) ∧ (0 ≤ v298.toInt → rC M291 o0 ((32 + v24).toNatClampNeg)) := rC.st K204 R193 K205 (by have := mz_nat9 (i := (32 + v24)) (by have := R193.1 15 _ _ rfl; have := R193.1 16 _ _ rfl; have := R193.1 19 _ _ rfl; omega); have := R193.1 15 _ _ rfl; have := R193.1 16 _ _ rfl; have := R193.1 19 _ _ rfl; omega) (by unfold rU; have := mz_nat9 (i := (32 + v24)) (by have := R193.1 15 _ _ rfl; have := R193.1 16 _ _ rfl; have := R193.1 19 _ _ rfl; omega); have := R193.1 15 _ _ rfl; have := R193.1 16 _ _ rfl; have := R193.1 19 _ _ rfl; omega) f300 f301 (sA_c I191 J294 (I191.up h_o0) (by decide)) (sF_c I191 J294 (I191.up h_o0) (by decide))
              have K313 : 0 ≤ v298.toInt → ra M291 o0 7 (20 * (32 + v24).toNatClampNeg) = 8 := k8_of f300 f301 K207
              clear z201 z202 z203
              have q314 := J294.keep t200 (by decide) q208
              have q315 := J294.keep t200 (by decide) q209
              have q316 := J294.keep t200 (by decide) q211
              have q317 := J294.keep t200 (by decide) q287
              refine mv_istore_n (lv' := [(2, .int v298), (0, .ref o0), (1, .int x1)]) d_TrustDeskModel_near_85 rfl (by decide) rfl ?_
              refine mv_iload_n d_TrustDeskModel_near_86 rfl rfl ?_
              have := mz_hi v298
              refine mv_if_geZ (tgt := 92) (a := v298.toInt) d_TrustDeskModel_near_87 (by decide) rfl (fun b318 => ?_) (fun b318 => ?_)
              · have K319 : rC M291 o0 ((32 + v24).toNatClampNeg) := K312.2 (by omega)
                refine mv_aload_n d_TrustDeskModel_near_92 rfl rfl ?_
                obtain ⟨a321, q320, t_a321⟩ := tm_atR I295 t302 (k := 50) rfl
                refine tr_getK q320 d_TrustDeskModel_near_93 f_TrustDeskModel_116_13 ?_
                refine mv_aload_n d_TrustDeskModel_near_96 rfl rfl ?_
                refine tr_getK (k := 49) q315 d_TrustDeskModel_near_97 f_TrustDeskModel_435_13 ?_
                refine mv_iload_n d_TrustDeskModel_near_100 rfl rfl ?_
                refine tr_iastR (k := 50) I295 R299 (I295.up h_o0) q320 t_a321 (by decide) (by decide) (fun lo hi h => by cases h) (Or.inl (by decide)) d_TrustDeskModel_near_101 (vp_in_iff.mpr (by have := R299.1 15 _ _ rfl; have := R299.1 16 _ _ rfl; have := R299.1 19 _ _ rfl; omega)) (fun M322 I323 K324 R325 E326 A327 V328 => ?_)
                have z329 := (V328 15).trans z303
                have z330 := (V328 16).trans z304
                have z331 := (V328 17).trans z305
                have z332 := (V328 19).trans z306
                have z333 := (V328 22).trans z307
                have z334 := (V328 24).trans z308
                have z335 := (V328 27).trans z309
                have z336 := (V328 32).trans z310
                have z337 := (V328 49).trans z311
                have z338 := (A327 5 (by decide) rfl 44)
                have z339 := (A327 6 (by decide) rfl 44)
                have K340 : 0 ≤ v298.toInt → ra M322 o0 7 (20 * (32 + v24).toNatClampNeg) = 8 := (by have e1 := ((sA_a A327 (by decide +kernel)) : sA [7] _ _ _) 7 rfl; rw [e1]; exact K313)
                have K341 : rC M322 o0 ((32 + v24).toNatClampNeg) := K319.same (sA_a A327 (by decide +kernel)) (sF_a V328)
                clear z303 z304 z305 z307 z308 z309 z310 z311
                refine mv_aload_n d_TrustDeskModel_near_102 rfl rfl ?_
                refine mv_dup d_TrustDeskModel_near_103 rfl ?_
                refine tr_getK (k := 49) (K324 _ 13 49 _ q315) d_TrustDeskModel_near_104 f_TrustDeskModel_435_13 ?_
                refine mv_iconst (v := 1) d_TrustDeskModel_near_107 (by decide) ?_
                refine mv_iadd d_TrustDeskModel_near_108 ?_
                have b342 : (v24 + 1 : Int32).toInt = (v24.toInt + 1) := mz_add2 rfl (by decide) (by have := R325.1 15 _ _ rfl; have := R325.1 16 _ _ rfl; have := R325.1 19 _ _ rfl; omega) (by have := R325.1 15 _ _ rfl; have := R325.1 16 _ _ rfl; have := R325.1 19 _ _ rfl; omega)
                refine tr_putR (k := 49) I323 R325 t302 rfl ⟨_, rfl⟩ (fun _ h => by cases h) rfl (fun lo hi h => by cases h; have := R325.1 15 _ _ rfl; have := R325.1 16 _ _ rfl; have := R325.1 19 _ _ rfl; exact ⟨by show (0 : Int) ≤ (v24 + 1).toInt; omega, by show (v24 + 1).toInt ≤ (12 : Int); omega⟩) (Or.inl (by decide)) d_TrustDeskModel_near_109 p_TrustDeskModel_435_13 rfl rfl (fun M343 I344 q345 K346 R347 A348 V349 => ?_)
                have z350 := (V349 15 (by decide)).trans z329
                have z351 := (V349 16 (by decide)).trans z330
                have z352 := (V349 17 (by decide)).trans z331
                have z353 := (V349 19 (by decide)).trans z332
                have z354 := (V349 22 (by decide)).trans z333
                have z355 := (V349 24 (by decide)).trans z334
                have z356 := (V349 27 (by decide)).trans z335
                have z357 := (V349 32 (by decide)).trans z336
                have z358 := (A348 5 (by decide) 44).trans z338
                have z359 := (A348 6 (by decide) 44).trans z339
                have z360 : rv M343 o0 49 = (v24 + 1).toInt := tm_rv q345
                have K361 : 0 ≤ v298.toInt → ra M343 o0 7 (20 * (32 + v24).toNatClampNeg) = 8 := (by have e1 := ((sA_f A348 (by decide)) : sA [7] _ _ _) 7 rfl; rw [e1]; exact K340)
                have K362 : rC M343 o0 44 := rC.near K341 A348 V349 (by have := mz_nat9 (i := (32 + v24)) (by have := R325.1 15 _ _ rfl; have := R325.1 16 _ _ rfl; have := R325.1 19 _ _ rfl; omega); have := R325.1 15 _ _ rfl; have := R325.1 16 _ _ rfl; have := R325.1 19 _ _ rfl; omega) (by have := R325.1 15 _ _ rfl; have := R325.1 16 _ _ rfl; have := R325.1 19 _ _ rfl; omega) (by have := R325.1 15 _ _ rfl; have := R325.1 16 _ _ rfl; have := R325.1 19 _ _ rfl; omega) (K340 (by omega))
                clear z329 z330 z331 z333 z334 z335 z336 z338 z339
                refine mv_aload_n d_TrustDeskModel_near_112 rfl rfl ?_
                refine tr_getK (k := 49) q345 d_TrustDeskModel_near_113 f_TrustDeskModel_435_13 ?_
                refine mv_iconst (v := 1) d_TrustDeskModel_near_116 (by decide) ?_
                refine mv_isubv (v := v24) d_TrustDeskModel_near_117 (Int32.add_sub_cancel _ _) ?_
                exact mv_iret d_TrustDeskModel_near_118 rfl (by first | rfl | decide) ⟨_, I344, _, rfl, R347, K362, (by have := R347.1 15 _ _ rfl; have := R347.1 16 _ _ rfl; have := R347.1 19 _ _ rfl; omega)⟩
              · have K363 : rC M291 o0 44 := K312.1 (by omega)
                refine mv_iload_n d_TrustDeskModel_near_90 rfl rfl ?_
                exact mv_iret d_TrustDeskModel_near_91 rfl (by first | rfl | decide) ⟨_, I295, _, rfl, R299, K363, (by have := R299.1 15 _ _ rfl; have := R299.1 16 _ _ rfl; have := R299.1 19 _ _ rfl; omega)⟩
            · refine mv_aload_n d_TrustDeskModel_near_69 rfl rfl ?_
              refine mv_iconst (v := 1) d_TrustDeskModel_near_70 (by decide) ?_
              obtain ⟨_, b370, -⟩ := I191.1 _ _ t200
              have : (1 : Int32).toInt = 1 := by decide
              refine mv_callV (kc' := 0) (ks' := 0) (As := [.int 1]) (st9 := [.int 1, .ref o0]) d_TrustDeskModel_near_71 lV_TrustDeskModel_240 b370 rfl (tc_TrustDeskModel_fails_x (d := (d + 26)) (x9 := x9) (o0 := o0) (x1 := 1) t200 R193 (by decide) I191.start) rfl (Nat.le_of_ble_eq_true rfl) (Nat.le_of_ble_eq_true rfl) (Nat.le_of_ble_eq_true rfl) (hst := rfl) (fun b364r M365 n366 b364 => ?_)
              obtain ⟨T367, J368, rfl, R371, f372⟩ := b364
              have I369 := I191.call J368 (tm_sub (by decide)) (Or.inl rfl)
              have t373 := J368.up t200
              have z374 := (rv_c I191 J368 (I191.up h_o0) (k := 15) rfl)
              have z375 := (rv_c I191 J368 (I191.up h_o0) (k := 16) rfl)
              have z376 := (rv_c I191 J368 (I191.up h_o0) (k := 17) rfl)
              have z377 := (rv_c I191 J368 (I191.up h_o0) (k := 22) rfl)
              have z378 := (rv_c I191 J368 (I191.up h_o0) (k := 24) rfl)
              have z379 := (rv_c I191 J368 (I191.up h_o0) (k := 27) rfl).trans z201
              have z380 := (rv_c I191 J368 (I191.up h_o0) (k := 32) rfl).trans z202
              have z381 := (rv_c I191 J368 (I191.up h_o0) (k := 49) rfl).trans z203
              have z382 := (ra_call I191 J368 (I191.up h_o0) (k := 5) rfl rfl rfl 44)
              have z383 := (ra_call I191 J368 (I191.up h_o0) (k := 6) rfl rfl rfl 44)
              have K384 : rC M365 o0 44 := K204.same (sA_c I191 J368 (I191.up h_o0) (by decide +kernel)) (sF_c I191 J368 (I191.up h_o0) (by decide +kernel))
              have K385 : rW M365 o0 := K205.fail (sF_c I191 J368 (I191.up h_o0) (by decide)) f372
              have K386 : rv M365 o0 19 = 0 → ra M365 o0 7 880 = 8 ∧ ra M365 o0 6 44 = 1 := (fun h9 => absurd h9 f372)
              clear z201 z202 z203
              have q387 := J368.keep t200 (by decide) q208
              have q388 := J368.keep t200 (by decide) q209
              have q389 := J368.keep t200 (by decide) q287
              refine mv_aload_n d_TrustDeskModel_near_74 rfl rfl ?_
              refine mv_bipush (v := 32) d_TrustDeskModel_near_75 (by decide) ?_
              refine mv_aload_n d_TrustDeskModel_near_77 rfl rfl ?_
              refine tr_getK (k := 49) q388 d_TrustDeskModel_near_78 f_TrustDeskModel_435_13 ?_
              refine mv_iadd d_TrustDeskModel_near_81 ?_
              obtain ⟨_, b396, -⟩ := I369.1 _ _ t373
              have b397 : (32 + v24 : Int32).toInt = (32 + v24.toInt) := mz_add2 (by decide) rfl (by have := R371.1 15 _ _ rfl; have := R371.1 16 _ _ rfl; have := R371.1 19 _ _ rfl; omega) (by have := R371.1 15 _ _ rfl; have := R371.1 16 _ _ rfl; have := R371.1 19 _ _ rfl; omega)
              refine mv_callV (kc' := 0) (ks' := 0) (As := [.int (32 + v24)]) (st9 := [.int (32 + v24), .ref o0]) d_TrustDeskModel_near_82 lV_TrustDeskModel_388 b396 rfl (tc_TrustDeskModel_stops_x (d := (d + 25)) (x9 := x9) (o0 := o0) (x1 := (32 + v24)) t373 R371 (by have := R371.1 15 _ _ rfl; have := R371.1 16 _ _ rfl; have := R371.1 19 _ _ rfl; omega) I369.start) rfl (Nat.le_of_ble_eq_true rfl) (Nat.le_of_ble_eq_true rfl) (Nat.le_of_ble_eq_true rfl) (hst := rfl) (fun b390r M391 n392 b390 => ?_)
              obtain ⟨T393, J394, v398, rfl, R399, f400, f401⟩ := b390
              have I395 := I369.call J394 (tm_sub (by decide)) (Or.inl rfl)
              have t402 := J394.up t373
              replace f400 := Im.i f400
              replace f401 := Im.i f401
              have z403 := (rv_c I369 J394 (I369.up h_o0) (k := 15) rfl).trans z374
              have z404 := (rv_c I369 J394 (I369.up h_o0) (k := 16) rfl).trans z375
              have z405 := (rv_c I369 J394 (I369.up h_o0) (k := 17) rfl).trans z376
              have z406 := (rv_c I369 J394 (I369.up h_o0) (k := 19) rfl)
              have z407 := (rv_c I369 J394 (I369.up h_o0) (k := 22) rfl).trans z377
              have z408 := (rv_c I369 J394 (I369.up h_o0) (k := 24) rfl).trans z378
              have z409 := (rv_c I369 J394 (I369.up h_o0) (k := 27) rfl).trans z379
              have z410 := (rv_c I369 J394 (I369.up h_o0) (k := 32) rfl).trans z380
              have z411 := (rv_c I369 J394 (I369.up h_o0) (k := 49) rfl).trans z381
              have K412 : (v398.toInt < 0 → rC M391 o0 44) ∧ (0 ≤ v398.toInt → rC M391 o0 ((32 + v24).toNatClampNeg)) := rC.st K384 R371 K385 (by have := mz_nat9 (i := (32 + v24)) (by have := R371.1 15 _ _ rfl; have := R371.1 16 _ _ rfl; have := R371.1 19 _ _ rfl; omega); have := R371.1 15 _ _ rfl; have := R371.1 16 _ _ rfl; have := R371.1 19 _ _ rfl; omega) (by unfold rU; have := mz_nat9 (i := (32 + v24)) (by have := R371.1 15 _ _ rfl; have := R371.1 16 _ _ rfl; have := R371.1 19 _ _ rfl; omega); have := R371.1 15 _ _ rfl; have := R371.1 16 _ _ rfl; have := R371.1 19 _ _ rfl; omega) f400 f401 (sA_c I369 J394 (I369.up h_o0) (by decide)) (sF_c I369 J394 (I369.up h_o0) (by decide))
              have K413 : 0 ≤ v398.toInt → ra M391 o0 7 (20 * (32 + v24).toNatClampNeg) = 8 := k8_of f400 f401 K386
              clear z374 z375 z376 z377 z378 z379 z380 z381
              have q414 := J394.keep t373 (by decide) q387
              have q415 := J394.keep t373 (by decide) q388
              have q416 := J394.keep t373 (by decide) q389
              refine mv_istore_n (lv' := [(2, .int v398), (0, .ref o0), (1, .int x1)]) d_TrustDeskModel_near_85 rfl (by decide) rfl ?_
              refine mv_iload_n d_TrustDeskModel_near_86 rfl rfl ?_
              have := mz_hi v398
              refine mv_if_geZ (tgt := 92) (a := v398.toInt) d_TrustDeskModel_near_87 (by decide) rfl (fun b417 => ?_) (fun b417 => ?_)
              · have K418 : rC M391 o0 ((32 + v24).toNatClampNeg) := K412.2 (by omega)
                refine mv_aload_n d_TrustDeskModel_near_92 rfl rfl ?_
                obtain ⟨a420, q419, t_a420⟩ := tm_atR I395 t402 (k := 50) rfl
                refine tr_getK q419 d_TrustDeskModel_near_93 f_TrustDeskModel_116_13 ?_
                refine mv_aload_n d_TrustDeskModel_near_96 rfl rfl ?_
                refine tr_getK (k := 49) q415 d_TrustDeskModel_near_97 f_TrustDeskModel_435_13 ?_
                refine mv_iload_n d_TrustDeskModel_near_100 rfl rfl ?_
                refine tr_iastR (k := 50) I395 R399 (I395.up h_o0) q419 t_a420 (by decide) (by decide) (fun lo hi h => by cases h) (Or.inl (by decide)) d_TrustDeskModel_near_101 (vp_in_iff.mpr (by have := R399.1 15 _ _ rfl; have := R399.1 16 _ _ rfl; have := R399.1 19 _ _ rfl; omega)) (fun M421 I422 K423 R424 E425 A426 V427 => ?_)
                have z428 := (V427 15).trans z403
                have z429 := (V427 16).trans z404
                have z430 := (V427 17).trans z405
                have z431 := (V427 19).trans z406
                have z432 := (V427 22).trans z407
                have z433 := (V427 24).trans z408
                have z434 := (V427 27).trans z409
                have z435 := (V427 32).trans z410
                have z436 := (V427 49).trans z411
                have z437 := (A426 5 (by decide) rfl 44)
                have z438 := (A426 6 (by decide) rfl 44)
                have K439 : 0 ≤ v398.toInt → ra M421 o0 7 (20 * (32 + v24).toNatClampNeg) = 8 := (by have e1 := ((sA_a A426 (by decide +kernel)) : sA [7] _ _ _) 7 rfl; rw [e1]; exact K413)
                have K440 : rC M421 o0 ((32 + v24).toNatClampNeg) := K418.same (sA_a A426 (by decide +kernel)) (sF_a V427)
                clear z403 z404 z405 z407 z408 z409 z410 z411
                refine mv_aload_n d_TrustDeskModel_near_102 rfl rfl ?_
                refine mv_dup d_TrustDeskModel_near_103 rfl ?_
                refine tr_getK (k := 49) (K423 _ 13 49 _ q415) d_TrustDeskModel_near_104 f_TrustDeskModel_435_13 ?_
                refine mv_iconst (v := 1) d_TrustDeskModel_near_107 (by decide) ?_
                refine mv_iadd d_TrustDeskModel_near_108 ?_
                have b441 : (v24 + 1 : Int32).toInt = (v24.toInt + 1) := mz_add2 rfl (by decide) (by have := R424.1 15 _ _ rfl; have := R424.1 16 _ _ rfl; have := R424.1 19 _ _ rfl; omega) (by have := R424.1 15 _ _ rfl; have := R424.1 16 _ _ rfl; have := R424.1 19 _ _ rfl; omega)
                refine tr_putR (k := 49) I422 R424 t402 rfl ⟨_, rfl⟩ (fun _ h => by cases h) rfl (fun lo hi h => by cases h; have := R424.1 15 _ _ rfl; have := R424.1 16 _ _ rfl; have := R424.1 19 _ _ rfl; exact ⟨by show (0 : Int) ≤ (v24 + 1).toInt; omega, by show (v24 + 1).toInt ≤ (12 : Int); omega⟩) (Or.inl (by decide)) d_TrustDeskModel_near_109 p_TrustDeskModel_435_13 rfl rfl (fun M442 I443 q444 K445 R446 A447 V448 => ?_)
                have z449 := (V448 15 (by decide)).trans z428
                have z450 := (V448 16 (by decide)).trans z429
                have z451 := (V448 17 (by decide)).trans z430
                have z452 := (V448 19 (by decide)).trans z431
                have z453 := (V448 22 (by decide)).trans z432
                have z454 := (V448 24 (by decide)).trans z433
                have z455 := (V448 27 (by decide)).trans z434
                have z456 := (V448 32 (by decide)).trans z435
                have z457 := (A447 5 (by decide) 44).trans z437
                have z458 := (A447 6 (by decide) 44).trans z438
                have z459 : rv M442 o0 49 = (v24 + 1).toInt := tm_rv q444
                have K460 : 0 ≤ v398.toInt → ra M442 o0 7 (20 * (32 + v24).toNatClampNeg) = 8 := (by have e1 := ((sA_f A447 (by decide)) : sA [7] _ _ _) 7 rfl; rw [e1]; exact K439)
                have K461 : rC M442 o0 44 := rC.near K440 A447 V448 (by have := mz_nat9 (i := (32 + v24)) (by have := R424.1 15 _ _ rfl; have := R424.1 16 _ _ rfl; have := R424.1 19 _ _ rfl; omega); have := R424.1 15 _ _ rfl; have := R424.1 16 _ _ rfl; have := R424.1 19 _ _ rfl; omega) (by have := R424.1 15 _ _ rfl; have := R424.1 16 _ _ rfl; have := R424.1 19 _ _ rfl; omega) (by have := R424.1 15 _ _ rfl; have := R424.1 16 _ _ rfl; have := R424.1 19 _ _ rfl; omega) (K439 (by omega))
                clear z428 z429 z430 z432 z433 z434 z435 z437 z438
                refine mv_aload_n d_TrustDeskModel_near_112 rfl rfl ?_
                refine tr_getK (k := 49) q444 d_TrustDeskModel_near_113 f_TrustDeskModel_435_13 ?_
                refine mv_iconst (v := 1) d_TrustDeskModel_near_116 (by decide) ?_
                refine mv_isubv (v := v24) d_TrustDeskModel_near_117 (Int32.add_sub_cancel _ _) ?_
                exact mv_iret d_TrustDeskModel_near_118 rfl (by first | rfl | decide) ⟨_, I443, _, rfl, R446, K461, (by have := R446.1 15 _ _ rfl; have := R446.1 16 _ _ rfl; have := R446.1 19 _ _ rfl; omega)⟩
              · have K462 : rC M391 o0 44 := K412.1 (by omega)
                refine mv_iload_n d_TrustDeskModel_near_90 rfl rfl ?_
                exact mv_iret d_TrustDeskModel_near_91 rfl (by first | rfl | decide) ⟨_, I395, _, rfl, R399, K462, (by have := R399.1 15 _ _ rfl; have := R399.1 16 _ _ rfl; have := R399.1 19 _ _ rfl; omega)⟩
      · refine mv_iconst (v := (-1)) d_TrustDeskModel_near_26 (by decide) ?_
        exact mv_iret d_TrustDeskModel_near_27 rfl (by first | rfl | decide) ⟨_, I3, _, rfl, R6, K20, (by have := R6.1 15 _ _ rfl; have := R6.1 16 _ _ rfl; have := R6.1 19 _ _ rfl; omega)⟩
