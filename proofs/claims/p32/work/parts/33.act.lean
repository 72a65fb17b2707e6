theorem tl_ge {a b : Int} (h : 0 ≤ a ∧ a ≤ 4) (e : a = b) : 0 ≤ b := by omega
theorem tl_st {a v p q : Int} (h0 : 0 ≤ a) (f3 : a = 0 → p = -1 ∧ v = 0) (f4 : a ≠ 0 → p = q ∧ v = -1 - a) : (0 ≤ v → a = 0 ∧ p = -1) ∧ (v < 0 → a ≠ 0 ∧ p = q ∧ v = -1 - a) := by
  by_cases h : a = 0
  · have h3 := f3 h
    exact ⟨fun _ => ⟨h, h3.1⟩, fun h9 => by omega⟩
  · have h3 := f4 h
    exact ⟨fun h9 => by omega, fun _ => ⟨h, h3.1, h3.2⟩⟩
abbrev kY_TrustDeskModel_act : mj_Y := (⟨"TrustDeskModel", "act", "(I)I"⟩, prog_14_method_44_code, 3, (Option.some Jvm.ClassFile.FieldType.int))
theorem d_TrustDeskModel_act_0 : decode kY_TrustDeskModel_act.2.1 0 = .ok (.aload_n 0, 1) := by decide +kernel
theorem d_TrustDeskModel_act_1 : decode kY_TrustDeskModel_act.2.1 1 = .ok (.iconst 0, 1) := by decide +kernel
theorem d_TrustDeskModel_act_2 : decode kY_TrustDeskModel_act.2.1 2 = .ok (.putfield 1, 3) := by decide +kernel
theorem p_TrustDeskModel_1_13 : mj_fp "TrustDeskModel" 1 13 0 (kt_TrustDeskModel 0) false := ⟨kR_TrustDeskModel, kF_TrustDeskModel, 72, "TrustDeskModel", kt_TrustDeskModel, rfl, kg_13, by decide, (mj_in1 (List.mem_of_getElem? (i := 1386) (by decide +kernel)) rfl), Or.inl rfl, kto_TrustDeskModel, kn_TrustDeskModel, rfl, rfl, fun h => by cases h⟩
theorem d_TrustDeskModel_act_5 : decode kY_TrustDeskModel_act.2.1 5 = .ok (.iload_n 1, 1) := by decide +kernel
theorem d_TrustDeskModel_act_6 : decode kY_TrustDeskModel_act.2.1 6 = .ok (.i2l, 1) := by decide +kernel
theorem d_TrustDeskModel_act_7 : decode kY_TrustDeskModel_act.2.1 7 = .ok (.lconst 0, 1) := by decide +kernel
theorem d_TrustDeskModel_act_8 : decode kY_TrustDeskModel_act.2.1 8 = .ok (.ldc2_w 376, 3) := by decide +kernel
theorem k_TrustDeskModel_376 : Cond.constantLong "TrustDeskModel" 376 36000 ∈ mj_T := (mj_in1 (List.mem_of_getElem? (i := 1643) (by decide +kernel)) rfl)
theorem d_TrustDeskModel_act_11 : decode kY_TrustDeskModel_act.2.1 11 = .ok (.invokestatic 169, 3) := by decide +kernel
theorem d_TrustDeskModel_act_14 : decode kY_TrustDeskModel_act.2.1 14 = .ok (.ifCond .eq 12, 3) := by decide +kernel
theorem d_TrustDeskModel_act_26 : decode kY_TrustDeskModel_act.2.1 26 = .ok (.iconst (-1), 1) := by decide +kernel
theorem d_TrustDeskModel_act_27 : decode kY_TrustDeskModel_act.2.1 27 = .ok (.ireturn, 1) := by decide +kernel
theorem d_TrustDeskModel_act_17 : decode kY_TrustDeskModel_act.2.1 17 = .ok (.aload_n 0, 1) := by decide +kernel
theorem d_TrustDeskModel_act_18 : decode kY_TrustDeskModel_act.2.1 18 = .ok (.getfield 378, 3) := by decide +kernel
theorem f_TrustDeskModel_378_13 : mj_fl "TrustDeskModel" 378 13 27 := ⟨kR_TrustDeskModel, kF_TrustDeskModel, 72, "TrustDeskModel", rfl, kg_13, by decide, (mj_in1 (List.mem_of_getElem? (i := 1413) (by decide +kernel)) rfl), Or.inl rfl⟩
theorem d_TrustDeskModel_act_21 : decode kY_TrustDeskModel_act.2.1 21 = .ok (.bipush 20, 2) := by decide +kernel
theorem d_TrustDeskModel_act_23 : decode kY_TrustDeskModel_act.2.1 23 = .ok (.if_icmp .ne 5, 3) := by decide +kernel
theorem d_TrustDeskModel_act_28 : decode kY_TrustDeskModel_act.2.1 28 = .ok (.aload_n 0, 1) := by decide +kernel
theorem d_TrustDeskModel_act_29 : decode kY_TrustDeskModel_act.2.1 29 = .ok (.iconst 1, 1) := by decide +kernel
theorem d_TrustDeskModel_act_30 : decode kY_TrustDeskModel_act.2.1 30 = .ok (.invokevirtual 381, 3) := by decide +kernel
theorem lV_TrustDeskModel_381 : mj_lV "TrustDeskModel" 381 kY_TrustDeskModel_starts 1 := ⟨⟨(mj_in1 (List.mem_of_getElem? (i := 1644) (by decide +kernel)) rfl), (mj_in1 (List.mem_of_getElem? (i := 10) (by decide +kernel)) rfl), (mj_in1 (List.mem_of_getElem? (i := 1647) (by decide +kernel)) rfl), by decide, rfl, by decide⟩, (mj_in1 (List.mem_of_getElem? (i := 1646) (by decide +kernel)) rfl), (mj_in (List.mem_append_left _ (List.mem_of_getElem? (i := 80) (by decide +kernel))) rfl)⟩
theorem d_TrustDeskModel_act_33 : decode kY_TrustDeskModel_act.2.1 33 = .ok (.aload_n 0, 1) := by decide +kernel
theorem d_TrustDeskModel_act_34 : decode kY_TrustDeskModel_act.2.1 34 = .ok (.invokevirtual 230, 3) := by decide +kernel
theorem d_TrustDeskModel_act_37 : decode kY_TrustDeskModel_act.2.1 37 = .ok (.ifCond .eq 17, 3) := by decide +kernel
theorem d_TrustDeskModel_act_54 : decode kY_TrustDeskModel_act.2.1 54 = .ok (.aload_n 0, 1) := by decide +kernel
theorem d_TrustDeskModel_act_55 : decode kY_TrustDeskModel_act.2.1 55 = .ok (.aload_n 0, 1) := by decide +kernel
theorem d_TrustDeskModel_act_56 : decode kY_TrustDeskModel_act.2.1 56 = .ok (.getfield 378, 3) := by decide +kernel
theorem d_TrustDeskModel_act_59 : decode kY_TrustDeskModel_act.2.1 59 = .ok (.invokevirtual 388, 3) := by decide +kernel
theorem lV_TrustDeskModel_388 : mj_lV "TrustDeskModel" 388 kY_TrustDeskModel_stops 1 := ⟨⟨(mj_in1 (List.mem_of_getElem? (i := 1772) (by decide +kernel)) rfl), (mj_in1 (List.mem_of_getElem? (i := 10) (by decide +kernel)) rfl), (mj_in1 (List.mem_of_getElem? (i := 1775) (by decide +kernel)) rfl), by decide, rfl, by decide⟩, (mj_in1 (List.mem_of_getElem? (i := 1774) (by decide +kernel)) rfl), (mj_in (List.mem_append_left _ (List.mem_of_getElem? (i := 103) (by decide +kernel))) rfl)⟩
theorem d_TrustDeskModel_act_62 : decode kY_TrustDeskModel_act.2.1 62 = .ok (.istore_n 2, 1) := by decide +kernel
theorem d_TrustDeskModel_act_63 : decode kY_TrustDeskModel_act.2.1 63 = .ok (.iload_n 2, 1) := by decide +kernel
theorem d_TrustDeskModel_act_64 : decode kY_TrustDeskModel_act.2.1 64 = .ok (.ifCond .ge 5, 3) := by decide +kernel
theorem d_TrustDeskModel_act_69 : decode kY_TrustDeskModel_act.2.1 69 = .ok (.aload_n 0, 1) := by decide +kernel
theorem d_TrustDeskModel_act_70 : decode kY_TrustDeskModel_act.2.1 70 = .ok (.getfield 57, 3) := by decide +kernel
theorem f_TrustDeskModel_57_13 : mj_fl "TrustDeskModel" 57 13 28 := ⟨kR_TrustDeskModel, kF_TrustDeskModel, 72, "TrustDeskModel", rfl, kg_13, by decide, (mj_in1 (List.mem_of_getElem? (i := 1414) (by decide +kernel)) rfl), Or.inl rfl⟩
theorem d_TrustDeskModel_act_73 : decode kY_TrustDeskModel_act.2.1 73 = .ok (.aload_n 0, 1) := by decide +kernel
theorem d_TrustDeskModel_act_74 : decode kY_TrustDeskModel_act.2.1 74 = .ok (.getfield 378, 3) := by decide +kernel
theorem d_TrustDeskModel_act_77 : decode kY_TrustDeskModel_act.2.1 77 = .ok (.iload_n 1, 1) := by decide +kernel
theorem d_TrustDeskModel_act_78 : decode kY_TrustDeskModel_act.2.1 78 = .ok (.iastore, 1) := by decide +kernel
theorem d_TrustDeskModel_act_79 : decode kY_TrustDeskModel_act.2.1 79 = .ok (.aload_n 0, 1) := by decide +kernel
theorem d_TrustDeskModel_act_80 : decode kY_TrustDeskModel_act.2.1 80 = .ok (.dup, 1) := by decide +kernel
theorem d_TrustDeskModel_act_81 : decode kY_TrustDeskModel_act.2.1 81 = .ok (.getfield 378, 3) := by decide +kernel
theorem d_TrustDeskModel_act_84 : decode kY_TrustDeskModel_act.2.1 84 = .ok (.iconst 1, 1) := by decide +kernel
theorem d_TrustDeskModel_act_85 : decode kY_TrustDeskModel_act.2.1 85 = .ok (.iadd, 1) := by decide +kernel
theorem d_TrustDeskModel_act_86 : decode kY_TrustDeskModel_act.2.1 86 = .ok (.putfield 378, 3) := by decide +kernel
theorem p_TrustDeskModel_378_13 : mj_fp "TrustDeskModel" 378 13 27 (kt_TrustDeskModel 27) false := ⟨kR_TrustDeskModel, kF_TrustDeskModel, 72, "TrustDeskModel", kt_TrustDeskModel, rfl, kg_13, by decide, (mj_in1 (List.mem_of_getElem? (i := 1413) (by decide +kernel)) rfl), Or.inl rfl, kto_TrustDeskModel, kn_TrustDeskModel, rfl, rfl, fun h => by cases h⟩
theorem d_TrustDeskModel_act_89 : decode kY_TrustDeskModel_act.2.1 89 = .ok (.aload_n 0, 1) := by decide +kernel
theorem d_TrustDeskModel_act_90 : decode kY_TrustDeskModel_act.2.1 90 = .ok (.getfield 23, 3) := by decide +kernel
theorem d_TrustDeskModel_act_93 : decode kY_TrustDeskModel_act.2.1 93 = .ok (.aload_n 0, 1) := by decide +kernel
theorem d_TrustDeskModel_act_94 : decode kY_TrustDeskModel_act.2.1 94 = .ok (.getfield 378, 3) := by decide +kernel
theorem d_TrustDeskModel_act_97 : decode kY_TrustDeskModel_act.2.1 97 = .ok (.iconst 1, 1) := by decide +kernel
theorem d_TrustDeskModel_act_98 : decode kY_TrustDeskModel_act.2.1 98 = .ok (.isub, 1) := by decide +kernel
theorem d_TrustDeskModel_act_99 : decode kY_TrustDeskModel_act.2.1 99 = .ok (.iaload, 1) := by decide +kernel
theorem d_TrustDeskModel_act_100 : decode kY_TrustDeskModel_act.2.1 100 = .ok (.ireturn, 1) := by decide +kernel
theorem d_TrustDeskModel_act_67 : decode kY_TrustDeskModel_act.2.1 67 = .ok (.iload_n 2, 1) := by decide +kernel
theorem d_TrustDeskModel_act_68 : decode kY_TrustDeskModel_act.2.1 68 = .ok (.ireturn, 1) := by decide +kernel
theorem d_TrustDeskModel_act_40 : decode kY_TrustDeskModel_act.2.1 40 = .ok (.aload_n 0, 1) := by decide +kernel
theorem d_TrustDeskModel_act_41 : decode kY_TrustDeskModel_act.2.1 41 = .ok (.getfield 198, 3) := by decide +kernel
theorem d_TrustDeskModel_act_44 : decode kY_TrustDeskModel_act.2.1 44 = .ok (.ifCond .eq 10, 3) := by decide +kernel
theorem d_TrustDeskModel_act_47 : decode kY_TrustDeskModel_act.2.1 47 = .ok (.aload_n 0, 1) := by decide +kernel
theorem d_TrustDeskModel_act_48 : decode kY_TrustDeskModel_act.2.1 48 = .ok (.invokevirtual 385, 3) := by decide +kernel
theorem lV_TrustDeskModel_385 : mj_lV "TrustDeskModel" 385 kY_TrustDeskModel_readRule 0 := ⟨⟨(mj_in1 (List.mem_of_getElem? (i := 1666) (by decide +kernel)) rfl), (mj_in1 (List.mem_of_getElem? (i := 10) (by decide +kernel)) rfl), (mj_in1 (List.mem_of_getElem? (i := 1669) (by decide +kernel)) rfl), by decide, rfl, by decide⟩, (mj_in1 (List.mem_of_getElem? (i := 1668) (by decide +kernel)) rfl), (mj_in (List.mem_append_left _ (List.mem_of_getElem? (i := 84) (by decide +kernel))) rfl)⟩
theorem d_TrustDeskModel_act_51 : decode kY_TrustDeskModel_act.2.1 51 = .ok (.goto (-18), 3) := by decide +kernel
def w_TrustDeskModel_act_x : List Nat := [1300, 1314, 1315, 1316, 1317, 1318, 1319, 1320, 1321, 1322, 1323, 1324, 1327, 20004, 20005, 20006, 20007, 20008, 20009, 20010, 20011, 20012, 20028]
set_option maxHeartbeats 100000000 in theorem tc_TrustDeskModel_act_x {g : mj_G} {l : Launch} {d : Nat} {T0 : tm_H} {M0 : mj_M} {n0 x9 : Nat} {o0 : Nat} {x1 : Int32} (h_o0 : T0 o0 = some (0, 13, 0)) (yR : rI M0 o0) (yC : rC M0 o0 44) {pb : Nat → Int} {pn : Nat} (yXT : pX M0 o0 pb pn) (I0 : tm_I tm_FT (tm_in w_TrustDeskModel_act_x) x9 T0 M0 n0 T0 M0 n0) : mj_Met g l kY_TrustDeskModel_act (d + 26) [.ref o0, .int x1] M0 n0 0 0 (tm_Q tm_FT (tm_in w_TrustDeskModel_act_x) x9 T0 M0 n0 (fun r _ M => ∃ v : Int32, r = some (.int v) ∧ rI M o0 ∧ (rC M o0 44) ∧ ((v.toInt = -1 ∧ ¬ (0 ≤ x1.toInt ∧ x1.toInt ≤ 36000 ∧ rv M0 o0 27 ≠ 20) ∧ rv M o0 14 = rv M0 o0 14 ∧ rv M o0 21 = rv M0 o0 21 ∧ rv M o0 27 = rv M0 o0 27) ∨ ((0 ≤ x1.toInt ∧ x1.toInt ≤ 36000 ∧ rv M0 o0 27 ≠ 20) ∧ rv M o0 14 = 0 ∧ (((p_act pb pn).2.1 = 0 ∧ v.toInt = ((p_act pb pn).1 : Int) ∧ rv M o0 21 = -1 ∧ rv M o0 27 = rv M0 o0 27 + 1) ∨ ((p_act pb pn).2.1 ≠ 0 ∧ v.toInt = -1 - (p_act pb pn).2.1 ∧ rv M o0 21 = ((p_act pb pn).2.2.1 : Int) ∧ rv M o0 27 = rv M0 o0 27)))))) := by
  refine mj_enter (by decide) (Nat.le_of_ble_eq_true rfl) ?_
  have K1 : rC M0 o0 44 := yC
  refine mv_aload_n d_TrustDeskModel_act_0 rfl rfl ?_
  refine mv_iconst (v := 0) d_TrustDeskModel_act_1 (by decide) ?_
  refine tr_putR (k := 0) I0 yR h_o0 rfl ⟨_, rfl⟩ (fun _ h => by cases h) rfl (fun lo hi h => by cases h) (Or.inl (by decide)) d_TrustDeskModel_act_2 p_TrustDeskModel_1_13 rfl rfl (fun M2 I3 q4 K5 R6 A7 V8 => ?_)
  have z9 := (V8 15 (by decide))
  have z10 := (V8 16 (by decide))
  have z11 := (V8 17 (by decide))
  have z12 := (V8 19 (by decide))
  have z13 := (V8 22 (by decide))
  have z14 := (V8 24 (by decide))
  have z15 := (V8 27 (by decide))
  have z16 := (V8 32 (by decide))
  have z17 := (V8 49 (by decide))
  have z18 := (V8 14 (by decide))
  have z19 := (V8 21 (by decide))
  have z20 := (A7 5 (by decide) 44)
  have z21 := (A7 6 (by decide) 44)
  have K22 : rC M2 o0 44 := K1.same (sA_f A7 (by decide)) (sF_f V8 (by decide))
  have K23 : pX M2 o0 pb pn := yXT.same (sA_f A7 (by decide)) (sF_f V8 (by decide))
  refine mv_iload_n d_TrustDeskModel_act_5 rfl rfl ?_
  refine mv_i2l (v := x1.toInt64) d_TrustDeskModel_act_6 rfl ?_
  refine mv_lconst (v := 0) d_TrustDeskModel_act_7 (by decide) ?_
  refine mv_ldc2 d_TrustDeskModel_act_8 k_TrustDeskModel_376 ?_
  refine mv_callS (kc1 := 0) (ks1 := 0) (kc' := 0) (ks' := 0) (As := [.long x1.toInt64, .long 0, .long 36000]) (st9 := [.long 36000, .long 0, .long x1.toInt64]) d_TrustDeskModel_act_11 lS_TrustDeskModel_169 (mj_enter (by decide) (Nat.le_of_ble_eq_true rfl) ?_) rfl (Nat.le_of_ble_eq_true rfl) (Nat.le_of_ble_eq_true rfl) (Nat.le_of_ble_eq_true rfl) (hst := rfl) (fun _ _ _ h => h)
  refine mv_lload_n d_TrustDeskModel_within_0 rfl rfl ?_
  refine mv_lload_n d_TrustDeskModel_within_1 rfl rfl ?_
  refine mv_lltZ (tgt := 17) (a := x1.toInt) (b := 0) d_TrustDeskModel_within_2 d_TrustDeskModel_within_3 (by decide) (mz_wide _) (by decide) (fun b24 => ?_) (fun b24 => ?_)
  · refine mv_iconst (v := 0) d_TrustDeskModel_within_17 (by decide) ?_
    refine mv_iret d_TrustDeskModel_within_18 rfl (by decide) ?_
    refine mv_if_eq_t (tgt := 26) d_TrustDeskModel_act_14 (by decide) (by decide) ?_
    refine mv_iconst (v := (-1)) d_TrustDeskModel_act_26 (by decide) ?_
    exact mv_iret d_TrustDeskModel_act_27 rfl (by first | rfl | decide) ⟨_, I3, _, rfl, R6, K22, (Or.inl ⟨by decide, by omega, z18, z19, z15⟩)⟩
  · refine mv_lload_n d_TrustDeskModel_within_6 rfl rfl ?_
    refine mv_lload d_TrustDeskModel_within_7 rfl ?_
    refine mv_lgtZ (tgt := 17) (a := x1.toInt) (b := 36000) d_TrustDeskModel_within_9 d_TrustDeskModel_within_10 (by decide) (mz_wide _) (by decide) (fun b25 => ?_) (fun b25 => ?_)
    · refine mv_iconst (v := 0) d_TrustDeskModel_within_17 (by decide) ?_
      refine mv_iret d_TrustDeskModel_within_18 rfl (by decide) ?_
      refine mv_if_eq_t (tgt := 26) d_TrustDeskModel_act_14 (by decide) (by decide) ?_
      refine mv_iconst (v := (-1)) d_TrustDeskModel_act_26 (by decide) ?_
      exact mv_iret d_TrustDeskModel_act_27 rfl (by first | rfl | decide) ⟨_, I3, _, rfl, R6, K22, (Or.inl ⟨by decide, by omega, z18, z19, z15⟩)⟩
    · refine mv_iconst (v := 1) d_TrustDeskModel_within_13 (by decide) ?_
      refine mv_goto (tgt := 18) d_TrustDeskModel_within_14 (by decide) ?_
      refine mv_iret d_TrustDeskModel_within_18 rfl (by decide) ?_
      refine mv_if_eq_f (tgt := 26) d_TrustDeskModel_act_14 (by decide) (by decide) ?_
      refine mv_aload_n d_TrustDeskModel_act_17 rfl rfl ?_
      obtain ⟨v27, q26⟩ := tm_atI I3 h_o0 (k := 27) rfl
      refine tr_getK q26 d_TrustDeskModel_act_18 f_TrustDeskModel_378_13 ?_
      have := R6.f (k := 27) q26 rfl
      have := (tm_rv q26).symm.trans z15
      have := tm_rv q26
      refine mv_bipush (v := 20) d_TrustDeskModel_act_21 (by decide) ?_
      have := mz_hi v27
      refine mv_icmp_neZ (tgt := 28) (a := v27.toInt) (b := 20) d_TrustDeskModel_act_23 (by decide) rfl (by decide) (fun b28 => ?_) (fun b28 => ?_)
      · refine mv_aload_n d_TrustDeskModel_act_28 rfl rfl ?_
        refine mv_iconst (v := 1) d_TrustDeskModel_act_29 (by decide) ?_
        obtain ⟨_, b35, -⟩ := I3.1 _ _ h_o0
        have : (1 : Int32).toInt = 1 := by decide
        refine mv_callV (kc' := 0) (ks' := 0) (As := [.int 1]) (st9 := [.int 1, .ref o0]) d_TrustDeskModel_act_30 lV_TrustDeskModel_381 b35 rfl (tc_TrustDeskModel_starts_x (d := (d + 23)) (x9 := x9) (o0 := o0) (x1 := 1) h_o0 (by decide) R6 K23 I3.start) rfl (Nat.le_of_ble_eq_true rfl) (Nat.le_of_ble_eq_true rfl) (Nat.le_of_ble_eq_true rfl) (hst := rfl) (fun b29r M30 n31 b29 => ?_)
        obtain ⟨T32, J33, rfl, R36, f37, f38, f39, f40, f41, f42, f43⟩ := b29
        have I34 := I3.call J33 (tm_sub (by decide)) (Or.inl rfl)
        have t44 := J33.up h_o0
        have z45 := (rv_c I3 J33 (I3.up h_o0) (k := 27) rfl).trans z15
        have z46 := (rv_c I3 J33 (I3.up h_o0) (k := 32) rfl).trans z16
        have z47 := (rv_c I3 J33 (I3.up h_o0) (k := 49) rfl).trans z17
        have z48 := (rv_c I3 J33 (I3.up h_o0) (k := 14) rfl).trans z18
        have z49 := (rv_c I3 J33 (I3.up h_o0) (k := 21) rfl).trans z19
        have K50 : rC M30 o0 44 := K22.same (sA_c I3 J33 (I3.up h_o0) (by decide +kernel)) (sF_c I3 J33 (I3.up h_o0) (by decide +kernel))
        have K51 : pX M30 o0 pb pn := K23.same (sA_c I3 J33 (I3.up h_o0) (by decide +kernel)) (sF_c I3 J33 (I3.up h_o0) (by decide +kernel))
        have K52 : rW M30 o0 := rW.start f37 R36 f41 f42 f40
        rw [show (if (1 : Int32).toInt = 0 then (10 : Int) else 13) = 13 from by decide] at f43
        obtain ⟨s53, e54⟩ : ∃ s9 : p_S, (0, 0, 0) = s9 := ⟨_, rfl⟩
        rw [e54] at f43
        have := f43.w
        have : s53.1 = 0 := by rw [← e54]
        have : s53.2.2 = 0 := by rw [← e54]
        have hG : Im (0 ≤ x1.toInt ∧ x1.toInt ≤ 36000 ∧ rv M0 o0 27 ≠ 20) := Im.i (by omega)
        clear z15 z16 z17 z18 z19
        have q55 := J33.keep h_o0 (by decide) q4
        have q56 := J33.keep h_o0 (by decide) q26
        have L33_57 : ∀ (k : Nat) (T_57 : tm_H) (M_57 : mj_M) (n_57 : Nat), tm_I tm_FT (tm_in w_TrustDeskModel_act_x) x9 T0 M0 n0 T_57 M_57 n_57 → T_57 o0 = some (0, 13, 0) → (rv M_57 o0 19 = 0 → rv M_57 o0 22 = 0) → rv M_57 o0 27 = rv M0 o0 27 → rv M_57 o0 32 = rv M0 o0 32 → rv M_57 o0 49 = rv M0 o0 49 → (rI M_57 o0) → (rC M_57 o0 44) → (rW M_57 o0) → (∃ (c1 : Nat) (s1 : p_S), pO M_57 o0 pb pn 13 s1 ∧ (s1.1 = 0 → ra M_57 o0 6 44 = (c1 : Int)) ∧ p_lp pn (p_ac1 pb pn 13) (c1, s1) = p_act pb pn) → 5 * (401 - rv M_57 o0 16) - rv M_57 o0 19 < (k : Int) → mj_V g l kY_TrustDeskModel_act (d + 26) 33 [(0, .ref o0), (1, .int x1)] [] M_57 n_57 0 0 (tm_Q tm_FT (tm_in w_TrustDeskModel_act_x) x9 T0 M0 n0 (fun r _ M => ∃ v : Int32, r = some (.int v) ∧ rI M o0 ∧ (rC M o0 44) ∧ ((v.toInt = -1 ∧ ¬ (0 ≤ x1.toInt ∧ x1.toInt ≤ 36000 ∧ rv M0 o0 27 ≠ 20) ∧ rv M o0 14 = rv M0 o0 14 ∧ rv M o0 21 = rv M0 o0 21 ∧ rv M o0 27 = rv M0 o0 27) ∨ ((0 ≤ x1.toInt ∧ x1.toInt ≤ 36000 ∧ rv M0 o0 27 ≠ 20) ∧ rv M o0 14 = 0 ∧ (((p_act pb pn).2.1 = 0 ∧ v.toInt = ((p_act pb pn).1 : Int) ∧ rv M o0 21 = -1 ∧ rv M o0 27 = rv M0 o0 27 + 1) ∨ ((p_act pb pn).2.1 ≠ 0 ∧ v.toInt = -1 - (p_act pb pn).2.1 ∧ rv M o0 21 = ((p_act pb pn).2.2.1 : Int) ∧ rv M o0 27 = rv M0 o0 27)))))) := by
          intro k57
          induction k57 with
          | zero =>
            intro T_57 M_57 n_57 I_57 h_q0_57 iv0_57 iv1_57 iv2_57 iv3_57 kKR_57 kKC_57 kKW_57 kKT9_57 hk57
            have := kKR_57.1 15 _ _ rfl
            have := kKR_57.1 16 _ _ rfl
            have := kKR_57.1 19 _ _ rfl
            exfalso; omega
          | succ k57 ih57 =>
            intro T_57 M_57 n_57 I_57 h_q0_57 iv0_57 iv1_57 iv2_57 iv3_57 kKR_57 kKC_57 kKW_57 kKT9_57 hk57
            obtain ⟨c58, s59, S60, h61, e62⟩ := kKT9_57
            replace h61 := Im.i h61
            have := S60.w
            refine mv_aload_n d_TrustDeskModel_act_33 rfl rfl ?_
            obtain ⟨_, b65, -⟩ := I_57.1 _ _ h_q0_57
            refine mv_callV (kc1 := 0) (ks1 := 0) (kc' := 0) (ks' := 0) (As := []) (st9 := [.ref o0]) d_TrustDeskModel_act_34 lV_TrustDeskModel_230 b65 rfl (mj_enter (by decide) (Nat.le_of_ble_eq_true rfl) ?_) rfl (Nat.le_of_ble_eq_true rfl) (Nat.le_of_ble_eq_true rfl) (Nat.le_of_ble_eq_true rfl) (hst := rfl) (fun _ _ _ h => h)
            refine mv_aload_n d_TrustDeskModel_isWell_0 rfl rfl ?_
            obtain ⟨v67, q66⟩ := tm_atI I_57 h_q0_57 (k := 19) rfl
            refine tr_getK q66 d_TrustDeskModel_isWell_1 f_TrustDeskModel_224_13 ?_
            have := kKR_57.f (k := 19) q66 rfl
            have := tm_rv q66
            have := mz_hi v67
            refine mv_if_neZ (tgt := 11) (a := v67.toInt) d_TrustDeskModel_isWell_4 (by decide) rfl (fun b68 => ?_) (fun b68 => ?_)
            · refine mv_iconst (v := 0) d_TrustDeskModel_isWell_11 (by decide) ?_
              refine mv_iret d_TrustDeskModel_isWell_12 rfl (by decide) ?_
              refine mv_if_eq_t (tgt := 54) d_TrustDeskModel_act_37 (by decide) (by decide) ?_
              refine mv_aload_n d_TrustDeskModel_act_54 rfl rfl ?_
              refine mv_aload_n d_TrustDeskModel_act_55 rfl rfl ?_
              obtain ⟨v70, q69⟩ := tm_atI I_57 h_q0_57 (k := 27) rfl
              refine tr_getK q69 d_TrustDeskModel_act_56 f_TrustDeskModel_378_13 ?_
              have := kKR_57.f (k := 27) q69 rfl
              have := tm_rv q69
              obtain ⟨_, b77, -⟩ := I_57.1 _ _ h_q0_57
              refine mv_callV (kc' := 0) (ks' := 0) (As := [.int v70]) (st9 := [.int v70, .ref o0]) d_TrustDeskModel_act_59 lV_TrustDeskModel_388 b77 rfl (tc_TrustDeskModel_stops_x (d := (d + 24)) (x9 := x9) (o0 := o0) (x1 := v70) h_q0_57 kKR_57 (by have := kKR_57.1 15 _ _ rfl; have := kKR_57.1 16 _ _ rfl; have := kKR_57.1 19 _ _ rfl; omega) S60 I_57.start) rfl (Nat.le_of_ble_eq_true rfl) (Nat.le_of_ble_eq_true rfl) (Nat.le_of_ble_eq_true rfl) (hst := rfl) (fun b71r M72 n73 b71 => ?_)
              obtain ⟨T74, J75, v78, rfl, R79, f80, f81, f82, f83, f84⟩ := b71
              have I76 := I_57.call J75 (tm_sub (by decide)) (Or.inl rfl)
              have t85 := J75.up h_q0_57
              replace f80 := Im.i f80
              replace f81 := Im.i f81
              have z86 := (rv_c I_57 J75 (I_57.up h_o0) (k := 15) rfl)
              have z87 := (rv_c I_57 J75 (I_57.up h_o0) (k := 16) rfl)
              have z88 := (rv_c I_57 J75 (I_57.up h_o0) (k := 17) rfl)
              have z89 := (rv_c I_57 J75 (I_57.up h_o0) (k := 19) rfl)
              have z90 := (rv_c I_57 J75 (I_57.up h_o0) (k := 22) rfl)
              have z91 := (rv_c I_57 J75 (I_57.up h_o0) (k := 24) rfl)
              have z92 := (rv_c I_57 J75 (I_57.up h_o0) (k := 27) rfl)
              have z93 := (rv_c I_57 J75 (I_57.up h_o0) (k := 32) rfl)
              have z94 := (rv_c I_57 J75 (I_57.up h_o0) (k := 49) rfl)
              have e95 := (by exact e62.symm.trans (p_lp_stop (show (p_ac1 pb pn 13) (c58, s59) = (c58, s59) from if_neg (fun h9 => by have h8 : s59.1 = 0 := h9.1; have h7 : p_ki pb pn s59.2.2 ≠ 0 := h9.2; omega))))
              have z1 : (p_act pb pn).2.1 = s59.1 := by rw [e95]
              have z2 : (p_act pb pn).1 = c58 := by rw [e95]
              have z3 : (p_act pb pn).2.2.1 = s59.2.1 := by rw [e95]
              have K96 : (v78.toInt < 0 → rC M72 o0 44) ∧ (0 ≤ v78.toInt → rC M72 o0 v70.toNatClampNeg) := rC.st kKC_57 kKR_57 kKW_57 (by have := mz_nat9 (i := v70) (by have := kKR_57.1 15 _ _ rfl; have := kKR_57.1 16 _ _ rfl; have := kKR_57.1 19 _ _ rfl; omega); have := kKR_57.1 15 _ _ rfl; have := kKR_57.1 16 _ _ rfl; have := kKR_57.1 19 _ _ rfl; omega) (by unfold rU; have := mz_nat9 (i := v70) (by have := kKR_57.1 15 _ _ rfl; have := kKR_57.1 16 _ _ rfl; have := kKR_57.1 19 _ _ rfl; omega); have := kKR_57.1 15 _ _ rfl; have := kKR_57.1 16 _ _ rfl; have := kKR_57.1 19 _ _ rfl; omega) f80 f81 (sA_c I_57 J75 (I_57.up h_o0) (by decide)) (sF_c I_57 J75 (I_57.up h_o0) (by decide))
              have zc : s59.1 = 0 → ra M72 o0 6 v70.toNatClampNeg = (c58 : Int) := fun z9 => by have w9 : rv M_57 o0 19 = 0 := (by omega); have e9 := (Im.o f81 w9).2.2.2.2.2.2.2; have := (Im.o h61) z9; omega
              replace zc := Im.i zc
              have g97 := Im.i (tl_st (tl_ge (kKR_57.1 19 _ _ rfl) S60.w) f83 f84)
              clear f83 f84
              have q98 := J75.keep h_q0_57 (by decide) q66
              have q99 := J75.keep h_q0_57 (by decide) q69
              refine mv_istore_n (lv' := [(2, .int v78), (0, .ref o0), (1, .int x1)]) d_TrustDeskModel_act_62 rfl (by decide) rfl ?_
              refine mv_iload_n d_TrustDeskModel_act_63 rfl rfl ?_
              have := mz_hi v78
              refine mv_if_geZ (tgt := 69) (a := v78.toInt) d_TrustDeskModel_act_64 (by decide) rfl (fun b100 => ?_) (fun b100 => ?_)
              · have K101 : rC M72 o0 v70.toNatClampNeg := K96.2 (by omega)
                obtain ⟨g102, g103⟩ := (Im.o g97).1 (by omega)
                have := (Im.o zc) g102
                refine mv_aload_n d_TrustDeskModel_act_69 rfl rfl ?_
                obtain ⟨a106, q105, t_a106⟩ := tm_atR I76 t85 (k := 28) rfl
                refine tr_getK q105 d_TrustDeskModel_act_70 f_TrustDeskModel_57_13 ?_
                refine mv_aload_n d_TrustDeskModel_act_73 rfl rfl ?_
                refine tr_getK (k := 27) q99 d_TrustDeskModel_act_74 f_TrustDeskModel_378_13 ?_
                refine mv_iload_n d_TrustDeskModel_act_77 rfl rfl ?_
                refine tr_iastR (k := 28) I76 R79 (I76.up h_o0) q105 t_a106 (by decide) (by decide) (fun lo hi h => by cases h) (Or.inl (by decide)) d_TrustDeskModel_act_78 (vp_in_iff.mpr (by have := R79.1 15 _ _ rfl; have := R79.1 16 _ _ rfl; have := R79.1 19 _ _ rfl; omega)) (fun M107 I108 K109 R110 E111 A112 V113 => ?_)
                have z114 := (V113 15).trans z86
                have z115 := (V113 16).trans z87
                have z116 := (V113 17).trans z88
                have z117 := (V113 19).trans z89
                have z118 := (V113 22).trans z90
                have z119 := (V113 24).trans z91
                have z120 := (V113 27).trans z92
                have z121 := (V113 32).trans z93
                have z122 := (V113 49).trans z94
                have z123 := (V113 14)
                have z124 := (V113 21)
                have z125 := (A112 5 (by decide) rfl 44)
                have z126 := (A112 6 (by decide) rfl 44)
                have z127 := (A112 6 (by decide) rfl v70.toNatClampNeg)
                have K128 : rC M107 o0 v70.toNatClampNeg := K101.same (sA_a A112 (by decide +kernel)) (sF_a V113)
                clear z86 z87 z88 z90 z91 z92 z93 z94
                refine mv_aload_n d_TrustDeskModel_act_79 rfl rfl ?_
                refine mv_dup d_TrustDeskModel_act_80 rfl ?_
                refine tr_getK (k := 27) (K109 _ 13 27 _ q99) d_TrustDeskModel_act_81 f_TrustDeskModel_378_13 ?_
                refine mv_iconst (v := 1) d_TrustDeskModel_act_84 (by decide) ?_
                refine mv_iadd d_TrustDeskModel_act_85 ?_
                have b129 : (v70 + 1 : Int32).toInt = (v70.toInt + 1) := mz_add2 rfl (by decide) (by have := R110.1 15 _ _ rfl; have := R110.1 16 _ _ rfl; have := R110.1 19 _ _ rfl; omega) (by have := R110.1 15 _ _ rfl; have := R110.1 16 _ _ rfl; have := R110.1 19 _ _ rfl; omega)
                refine tr_putR (k := 27) I108 R110 t85 rfl ⟨_, rfl⟩ (fun _ h => by cases h) rfl (fun lo hi h => by cases h; have := R110.1 15 _ _ rfl; have := R110.1 16 _ _ rfl; have := R110.1 19 _ _ rfl; exact ⟨by show (0 : Int) ≤ (v70 + 1).toInt; omega, by show (v70 + 1).toInt ≤ (20 : Int); omega⟩) (Or.inl (by decide)) d_TrustDeskModel_act_86 p_TrustDeskModel_378_13 rfl rfl (fun M130 I131 q132 K133 R134 A135 V136 => ?_)
                have z137 := (V136 15 (by decide)).trans z114
                have z138 := (V136 16 (by decide)).trans z115
                have z139 := (V136 17 (by decide)).trans z116
                have z140 := (V136 19 (by decide)).trans z117
                have z141 := (V136 22 (by decide)).trans z118
                have z142 := (V136 24 (by decide)).trans z119
                have z143 := (V136 32 (by decide)).trans z121
                have z144 := (V136 49 (by decide)).trans z122
                have z145 := (V136 14 (by decide)).trans z123
                have z146 := (V136 21 (by decide)).trans z124
                have z147 := (A135 5 (by decide) 44).trans z125
                have z148 := (A135 6 (by decide) 44).trans z126
                have z149 := (A135 6 (by decide) v70.toNatClampNeg).trans z127
                have z150 : rv M130 o0 27 = (v70 + 1).toInt := tm_rv q132
                have K151 : rC M130 o0 44 := rC.act K128 A135 V136 (by have := mz_nat9 (i := v70) (by have := R110.1 15 _ _ rfl; have := R110.1 16 _ _ rfl; have := R110.1 19 _ _ rfl; omega); have := R110.1 15 _ _ rfl; have := R110.1 16 _ _ rfl; have := R110.1 19 _ _ rfl; omega) (by have := R110.1 15 _ _ rfl; have := R110.1 16 _ _ rfl; have := R110.1 19 _ _ rfl; omega) (by have := R110.1 15 _ _ rfl; have := R110.1 16 _ _ rfl; have := R110.1 19 _ _ rfl; omega)
                clear z114 z115 z116 z118 z119 z121 z122 z123 z124 z125 z126 z127
                refine mv_aload_n d_TrustDeskModel_act_89 rfl rfl ?_
                obtain ⟨a153, q152, t_a153⟩ := tm_atR I131 t85 (k := 6) rfl
                refine tr_getK q152 d_TrustDeskModel_act_90 f_TrustDeskModel_23_13 ?_
                refine mv_aload_n d_TrustDeskModel_act_93 rfl rfl ?_
                refine tr_getK (k := 27) q132 d_TrustDeskModel_act_94 f_TrustDeskModel_378_13 ?_
                refine mv_iconst (v := 1) d_TrustDeskModel_act_97 (by decide) ?_
                refine mv_isubv (v := v70) d_TrustDeskModel_act_98 (Int32.add_sub_cancel _ _) ?_
                refine tr_ialdR (o := o0) (k := 6) I131 q152 t_a153 (by decide) d_TrustDeskModel_act_99 (vp_in_iff.mpr (by have := R134.1 15 _ _ rfl; have := R134.1 16 _ _ rfl; have := R134.1 19 _ _ rfl; omega)) (fun v154 e155 => ?_)
                have := R134.a (k := 6) rfl (v70 : Int32).toNatClampNeg
                have : v154.toInt = _ := Eq.trans e155 z149
                exact mv_iret d_TrustDeskModel_act_100 rfl (by first | rfl | decide) ⟨_, I131, _, rfl, R134, K151, (Or.inr ⟨Im.o hG, by omega, Or.inl ⟨by omega, by omega, by omega, by omega⟩⟩)⟩
              · have K156 : rC M72 o0 44 := K96.1 (by omega)
                obtain ⟨g157, g158, g159⟩ := (Im.o g97).2 (by omega)
                refine mv_iload_n d_TrustDeskModel_act_67 rfl rfl ?_
                exact mv_iret d_TrustDeskModel_act_68 rfl (by first | rfl | decide) ⟨_, I76, _, rfl, R79, K156, (Or.inr ⟨Im.o hG, by omega, Or.inr ⟨by omega, by omega, by omega, by omega⟩⟩)⟩
            · refine mv_iconst (v := 1) d_TrustDeskModel_isWell_7 (by decide) ?_
              refine mv_goto (tgt := 12) d_TrustDeskModel_isWell_8 (by decide) ?_
              refine mv_iret d_TrustDeskModel_isWell_12 rfl (by decide) ?_
              refine mv_if_eq_f (tgt := 54) d_TrustDeskModel_act_37 (by decide) (by decide) ?_
              refine mv_aload_n d_TrustDeskModel_act_40 rfl rfl ?_
              obtain ⟨v161, q160⟩ := tm_atI I_57 h_q0_57 (k := 17) rfl
              refine tr_getK q160 d_TrustDeskModel_act_41 f_TrustDeskModel_198_13 ?_
              have := tm_rv q160
              have := mz_hi v161
              refine mv_if_eqZ (tgt := 54) (a := v161.toInt) d_TrustDeskModel_act_44 (by decide) rfl (fun b162 => ?_) (fun b162 => ?_)
              · refine mv_aload_n d_TrustDeskModel_act_54 rfl rfl ?_
                refine mv_aload_n d_TrustDeskModel_act_55 rfl rfl ?_
                obtain ⟨v164, q163⟩ := tm_atI I_57 h_q0_57 (k := 27) rfl
                refine tr_getK q163 d_TrustDeskModel_act_56 f_TrustDeskModel_378_13 ?_
                have := kKR_57.f (k := 27) q163 rfl
                have := tm_rv q163
                obtain ⟨_, b171, -⟩ := I_57.1 _ _ h_q0_57
                refine mv_callV (kc' := 0) (ks' := 0) (As := [.int v164]) (st9 := [.int v164, .ref o0]) d_TrustDeskModel_act_59 lV_TrustDeskModel_388 b171 rfl (tc_TrustDeskModel_stops_x (d := (d + 24)) (x9 := x9) (o0 := o0) (x1 := v164) h_q0_57 kKR_57 (by have := kKR_57.1 15 _ _ rfl; have := kKR_57.1 16 _ _ rfl; have := kKR_57.1 19 _ _ rfl; omega) S60 I_57.start) rfl (Nat.le_of_ble_eq_true rfl) (Nat.le_of_ble_eq_true rfl) (Nat.le_of_ble_eq_true rfl) (hst := rfl) (fun b165r M166 n167 b165 => ?_)
                obtain ⟨T168, J169, v172, rfl, R173, f174, f175, f176, f177, f178⟩ := b165
                have I170 := I_57.call J169 (tm_sub (by decide)) (Or.inl rfl)
                have t179 := J169.up h_q0_57
                replace f174 := Im.i f174
                replace f175 := Im.i f175
                have z180 := (rv_c I_57 J169 (I_57.up h_o0) (k := 15) rfl)
                have z181 := (rv_c I_57 J169 (I_57.up h_o0) (k := 16) rfl)
                have z182 := (rv_c I_57 J169 (I_57.up h_o0) (k := 17) rfl)
                have z183 := (rv_c I_57 J169 (I_57.up h_o0) (k := 19) rfl)
                have z184 := (rv_c I_57 J169 (I_57.up h_o0) (k := 22) rfl)
                have z185 := (rv_c I_57 J169 (I_57.up h_o0) (k := 24) rfl)
                have z186 := (rv_c I_57 J169 (I_57.up h_o0) (k := 27) rfl)
                have z187 := (rv_c I_57 J169 (I_57.up h_o0) (k := 32) rfl)
                have z188 := (rv_c I_57 J169 (I_57.up h_o0) (k := 49) rfl)
                have e189 := (by have := S60.s0 (by omega) (by omega); exact e62.symm.trans (p_lp_stop (show (p_ac1 pb pn 13) (c58, s59) = (c58, s59) from if_neg (fun h9 => by have h8 : s59.1 = 0 := h9.1; have h7 : p_ki pb pn s59.2.2 ≠ 0 := h9.2; omega))))
                have z1 : (p_act pb pn).2.1 = s59.1 := by rw [e189]
                have z2 : (p_act pb pn).1 = c58 := by rw [e189]
                have z3 : (p_act pb pn).2.2.1 = s59.2.1 := by rw [e189]
                have K190 : (v172.toInt < 0 → rC M166 o0 44) ∧ (0 ≤ v172.toInt → rC M166 o0 v164.toNatClampNeg) := rC.st kKC_57 kKR_57 kKW_57 (by have := mz_nat9 (i := v164) (by have := kKR_57.1 15 _ _ rfl; have := kKR_57.1 16 _ _ rfl; have := kKR_57.1 19 _ _ rfl; omega); have := kKR_57.1 15 _ _ rfl; have := kKR_57.1 16 _ _ rfl; have := kKR_57.1 19 _ _ rfl; omega) (by unfold rU; have := mz_nat9 (i := v164) (by have := kKR_57.1 15 _ _ rfl; have := kKR_57.1 16 _ _ rfl; have := kKR_57.1 19 _ _ rfl; omega); have := kKR_57.1 15 _ _ rfl; have := kKR_57.1 16 _ _ rfl; have := kKR_57.1 19 _ _ rfl; omega) f174 f175 (sA_c I_57 J169 (I_57.up h_o0) (by decide)) (sF_c I_57 J169 (I_57.up h_o0) (by decide))
                have zc : s59.1 = 0 → ra M166 o0 6 v164.toNatClampNeg = (c58 : Int) := fun z9 => by have w9 : rv M_57 o0 19 = 0 := (by omega); have e9 := (Im.o f175 w9).2.2.2.2.2.2.2; have := (Im.o h61) z9; omega
                replace zc := Im.i zc
                have g191 := Im.i (tl_st (tl_ge (kKR_57.1 19 _ _ rfl) S60.w) f177 f178)
                clear f177 f178
                have q192 := J169.keep h_q0_57 (by decide) q66
                have q193 := J169.keep h_q0_57 (by decide) q160
                have q194 := J169.keep h_q0_57 (by decide) q163
                refine mv_istore_n (lv' := [(2, .int v172), (0, .ref o0), (1, .int x1)]) d_TrustDeskModel_act_62 rfl (by decide) rfl ?_
                refine mv_iload_n d_TrustDeskModel_act_63 rfl rfl ?_
                have := mz_hi v172
                refine mv_if_geZ (tgt := 69) (a := v172.toInt) d_TrustDeskModel_act_64 (by decide) rfl (fun b195 => ?_) (fun b195 => ?_)
                · have K196 : rC M166 o0 v164.toNatClampNeg := K190.2 (by omega)
                  obtain ⟨g197, g198⟩ := (Im.o g191).1 (by omega)
                  have := (Im.o zc) g197
                  refine mv_aload_n d_TrustDeskModel_act_69 rfl rfl ?_
                  obtain ⟨a201, q200, t_a201⟩ := tm_atR I170 t179 (k := 28) rfl
                  refine tr_getK q200 d_TrustDeskModel_act_70 f_TrustDeskModel_57_13 ?_
                  refine mv_aload_n d_TrustDeskModel_act_73 rfl rfl ?_
                  refine tr_getK (k := 27) q194 d_TrustDeskModel_act_74 f_TrustDeskModel_378_13 ?_
                  refine mv_iload_n d_TrustDeskModel_act_77 rfl rfl ?_
                  refine tr_iastR (k := 28) I170 R173 (I170.up h_o0) q200 t_a201 (by decide) (by decide) (fun lo hi h => by cases h) (Or.inl (by decide)) d_TrustDeskModel_act_78 (vp_in_iff.mpr (by have := R173.1 15 _ _ rfl; have := R173.1 16 _ _ rfl; have := R173.1 19 _ _ rfl; omega)) (fun M202 I203 K204 R205 E206 A207 V208 => ?_)
                  have z209 := (V208 15).trans z180
                  have z210 := (V208 16).trans z181
                  have z211 := (V208 17).trans z182
                  have z212 := (V208 19).trans z183
                  have z213 := (V208 22).trans z184
                  have z214 := (V208 24).trans z185
                  have z215 := (V208 27).trans z186
                  have z216 := (V208 32).trans z187
                  have z217 := (V208 49).trans z188
                  have z218 := (V208 14)
                  have z219 := (V208 21)
                  have z220 := (A207 5 (by decide) rfl 44)
                  have z221 := (A207 6 (by decide) rfl 44)
                  have z222 := (A207 6 (by decide) rfl v164.toNatClampNeg)
                  have K223 : rC M202 o0 v164.toNatClampNeg := K196.same (sA_a A207 (by decide +kernel)) (sF_a V208)
                  clear z180 z181 z182 z184 z185 z186 z187 z188
                  refine mv_aload_n d_TrustDeskModel_act_79 rfl rfl ?_
                  refine mv_dup d_TrustDeskModel_act_80 rfl ?_
                  refine tr_getK (k := 27) (K204 _ 13 27 _ q194) d_TrustDeskModel_act_81 f_TrustDeskModel_378_13 ?_
                  refine mv_iconst (v := 1) d_TrustDeskModel_act_84 (by decide) ?_
                  refine mv_iadd d_TrustDeskModel_act_85 ?_
                  have b224 : (v164 + 1 : Int32).toInt = (v164.toInt + 1) := mz_add2 rfl (by decide) (by have := R205.1 15 _ _ rfl; have := R205.1 16 _ _ rfl; have := R205.1 19 _ _ rfl; omega) (by have := R205.1 15 _ _ rfl; have := R205.1 16 _ _ rfl; have := R205.1 19 _ _ rfl; omega)
                  refine tr_putR (k := 27) I203 R205 t179 rfl ⟨_, rfl⟩ (fun _ h => by cases h) rfl (fun lo hi h => by cases h; have := R205.1 15 _ _ rfl; have := R205.1 16 _ _ rfl; have := R205.1 19 _ _ rfl; exact ⟨by show (0 : Int) ≤ (v164 + 1).toInt; omega, by show (v164 + 1).toInt ≤ (20 : Int); omega⟩) (Or.inl (by decide)) d_TrustDeskModel_act_86 p_TrustDeskModel_378_13 rfl rfl (fun M225 I226 q227 K228 R229 A230 V231 => ?_)
                  have z232 := (V231 15 (by decide)).trans z209
                  have z233 := (V231 16 (by decide)).trans z210
                  have z234 := (V231 17 (by decide)).trans z211
                  have z235 := (V231 19 (by decide)).trans z212
                  have z236 := (V231 22 (by decide)).trans z213
                  have z237 := (V231 24 (by decide)).trans z214
                  have z238 := (V231 32 (by decide)).trans z216
                  have z239 := (V231 49 (by decide)).trans z217
                  have z240 := (V231 14 (by decide)).trans z218
                  have z241 := (V231 21 (by decide)).trans z219
                  have z242 := (A230 5 (by decide) 44).trans z220
                  have z243 := (A230 6 (by decide) 44).trans z221
                  have z244 := (A230 6 (by decide) v164.toNatClampNeg).trans z222
                  have z245 : rv M225 o0 27 = (v164 + 1).toInt := tm_rv q227
                  have K246 : rC M225 o0 44 := rC.act K223 A230 V231 (by have := mz_nat9 (i := v164) (by have := R205.1 15 _ _ rfl; have := R205.1 16 _ _ rfl; have := R205.1 19 _ _ rfl; omega); have := R205.1 15 _ _ rfl; have := R205.1 16 _ _ rfl; have := R205.1 19 _ _ rfl; omega) (by have := R205.1 15 _ _ rfl; have := R205.1 16 _ _ rfl; have := R205.1 19 _ _ rfl; omega) (by have := R205.1 15 _ _ rfl; have := R205.1 16 _ _ rfl; have := R205.1 19 _ _ rfl; omega)
                  clear z209 z210 z211 z213 z214 z216 z217 z218 z219 z220 z221 z222
                  refine mv_aload_n d_TrustDeskModel_act_89 rfl rfl ?_
                  obtain ⟨a248, q247, t_a248⟩ := tm_atR I226 t179 (k := 6) rfl
                  refine tr_getK q247 d_TrustDeskModel_act_90 f_TrustDeskModel_23_13 ?_
                  refine mv_aload_n d_TrustDeskModel_act_93 rfl rfl ?_
                  refine tr_getK (k := 27) q227 d_TrustDeskModel_act_94 f_TrustDeskModel_378_13 ?_
                  refine mv_iconst (v := 1) d_TrustDeskModel_act_97 (by decide) ?_
                  refine mv_isubv (v := v164) d_TrustDeskModel_act_98 (Int32.add_sub_cancel _ _) ?_
                  refine tr_ialdR (o := o0) (k := 6) I226 q247 t_a248 (by decide) d_TrustDeskModel_act_99 (vp_in_iff.mpr (by have := R229.1 15 _ _ rfl; have := R229.1 16 _ _ rfl; have := R229.1 19 _ _ rfl; omega)) (fun v249 e250 => ?_)
                  have := R229.a (k := 6) rfl (v164 : Int32).toNatClampNeg
                  have : v249.toInt = _ := Eq.trans e250 z244
                  exact mv_iret d_TrustDeskModel_act_100 rfl (by first | rfl | decide) ⟨_, I226, _, rfl, R229, K246, (Or.inr ⟨Im.o hG, by omega, Or.inl ⟨by omega, by omega, by omega, by omega⟩⟩)⟩
                · have K251 : rC M166 o0 44 := K190.1 (by omega)
                  obtain ⟨g252, g253, g254⟩ := (Im.o g191).2 (by omega)
                  refine mv_iload_n d_TrustDeskModel_act_67 rfl rfl ?_
                  exact mv_iret d_TrustDeskModel_act_68 rfl (by first | rfl | decide) ⟨_, I170, _, rfl, R173, K251, (Or.inr ⟨Im.o hG, by omega, Or.inr ⟨by omega, by omega, by omega, by omega⟩⟩)⟩
              · refine mv_aload_n d_TrustDeskModel_act_47 rfl rfl ?_
                obtain ⟨_, b261, -⟩ := I_57.1 _ _ h_q0_57
                refine mv_callV (kc' := 0) (ks' := 0) (As := []) (st9 := [.ref o0]) d_TrustDeskModel_act_48 lV_TrustDeskModel_385 b261 rfl (tc_TrustDeskModel_readRule_x (d := d) (x9 := x9) (o0 := o0) h_q0_57 kKR_57 kKW_57 (by have := kKR_57.1 15 _ _ rfl; have := kKR_57.1 16 _ _ rfl; have := kKR_57.1 19 _ _ rfl; omega) (by have := kKR_57.1 15 _ _ rfl; have := kKR_57.1 16 _ _ rfl; have := kKR_57.1 19 _ _ rfl; omega) (by have := kKR_57.1 15 _ _ rfl; have := kKR_57.1 16 _ _ rfl; have := kKR_57.1 19 _ _ rfl; omega) S60 (pc9 := c58) ((Im.o h61) (by omega)) I_57.start) rfl (Nat.le_of_ble_eq_true rfl) (Nat.le_of_ble_eq_true rfl) (Nat.le_of_ble_eq_true rfl) (hst := rfl) (fun b255r M256 n257 b255 => ?_)
                obtain ⟨T258, J259, rfl, R262, f263, f264, f265, f266, f267, f268⟩ := b255
                have I260 := I_57.call J259 (tm_sub (by decide)) (Or.inl rfl)
                have t269 := J259.up h_q0_57
                replace f266 := Im.i f266
                replace f268 := Im.i f268
                have z270 := (rv_c I_57 J259 (I_57.up h_o0) (k := 24) rfl)
                have z271 := (rv_c I_57 J259 (I_57.up h_o0) (k := 27) rfl)
                have z272 := (rv_c I_57 J259 (I_57.up h_o0) (k := 32) rfl)
                have z273 := (rv_c I_57 J259 (I_57.up h_o0) (k := 49) rfl)
                have z274 := (rv_c I_57 J259 (I_57.up h_o0) (k := 14) rfl)
                have z275 := (rv_c I_57 J259 (I_57.up h_o0) (k := 21) rfl)
                have K276 : rC M256 o0 44 := kKC_57.rO kKR_57 f264 (sA_c I_57 J259 (I_57.up h_o0) (by decide)) (sF_c I_57 J259 (I_57.up h_o0) (by decide))
                have K277 : rW M256 o0 := f263
                obtain ⟨s278, e279⟩ : ∃ s9 : p_S, p_rul pb pn 13 c58 s59 = s9 := ⟨_, rfl⟩
                rw [e279] at f267
                have := f267.w
                refine mv_goto (tgt := 33) d_TrustDeskModel_act_51 (by decide) ?_
                have T280 : ∃ (c1 : Nat) (s1 : p_S), pO M256 o0 pb pn 13 s1 ∧ (s1.1 = 0 → ra M256 o0 6 44 = (c1 : Int)) ∧ p_lp pn (p_ac1 pb pn 13) (c1, s1) = p_act pb pn := ⟨c58 + 1, s278, f267, (fun z9 => by have w9 : rv M256 o0 19 = 0 := (by omega); have u91 : rv M256 o0 19 = 0 := (by omega); have := f266.o u91; have := f268.o u91; have := (Im.o f268) w9; omega), (by have st : p_ac1 pb pn 13 (c58, s59) = (c58 + 1, s278) := (by have := S60.n0 (by omega) (by omega); rw [show p_ac1 pb pn 13 (c58, s59) = (c58 + 1, p_rul pb pn 13 c58 s59) from if_pos ⟨(by show s59.1 = 0; omega), (by show p_ki pb pn s59.2.2 ≠ 0; omega)⟩, e279]); rw [← st, p_P.go p_ac1_P (c58, s59)]; exact e62)⟩
                exact (ih57 T258 M256 n257 I260 t269 (fun w9 => by have u91 : rv M256 o0 19 = 0 := (by omega); have := f266.o u91; have := f268.o u91; omega) (by have := R262.1 15 _ _ rfl; have := R262.1 16 _ _ rfl; have := R262.1 19 _ _ rfl; first | omega | decide | exact fun h9 => absurd (by decide) h9) (by have := R262.1 15 _ _ rfl; have := R262.1 16 _ _ rfl; have := R262.1 19 _ _ rfl; first | omega | decide | exact fun h9 => absurd (by decide) h9) (by have := R262.1 15 _ _ rfl; have := R262.1 16 _ _ rfl; have := R262.1 19 _ _ rfl; first | omega | decide | exact fun h9 => absurd (by decide) h9) R262 K276 K277 T280 (by have := R262.1 15 _ _ rfl; have := R262.1 16 _ _ rfl; have := R262.1 19 _ _ rfl; exact Classical.byCases (fun w9 : rv M256 o0 19 = 0 => by have u91 : rv M256 o0 19 = 0 := (by omega); have := f266.o u91; have := f268.o u91; omega) (fun w9 : ¬ rv M256 o0 19 = 0 => by omega)))
        have T281 : ∃ (c1 : Nat) (s1 : p_S), pO M30 o0 pb pn 13 s1 ∧ (s1.1 = 0 → ra M30 o0 6 44 = (c1 : Int)) ∧ p_lp pn (p_ac1 pb pn 13) (c1, s1) = p_act pb pn := ⟨0, s53, f43, (fun _ => by have := f42; omega), (by rw [← e54]; rfl)⟩
        exact mv_less (Nat.zero_le _) (Nat.zero_le _) (L33_57 4294967296 T32 M30 n31 I34 t44 (fun w9 => by skip; omega) (by have := R36.1 15 _ _ rfl; have := R36.1 16 _ _ rfl; have := R36.1 19 _ _ rfl; first | omega | decide | exact fun h9 => absurd (by decide) h9) (by have := R36.1 15 _ _ rfl; have := R36.1 16 _ _ rfl; have := R36.1 19 _ _ rfl; first | omega | decide | exact fun h9 => absurd (by decide) h9) (by have := R36.1 15 _ _ rfl; have := R36.1 16 _ _ rfl; have := R36.1 19 _ _ rfl; first | omega | decide | exact fun h9 => absurd (by decide) h9) R36 K50 K52 T281 (by have := R36.1 15 _ _ rfl; have := R36.1 16 _ _ rfl; have := R36.1 19 _ _ rfl; omega))
      · refine mv_iconst (v := (-1)) d_TrustDeskModel_act_26 (by decide) ?_
        exact mv_iret d_TrustDeskModel_act_27 rfl (by first | rfl | decide) ⟨_, I3, _, rfl, R6, K22, (Or.inl ⟨by decide, by omega, z18, z19, z15⟩)⟩
