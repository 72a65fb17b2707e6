abbrev kY_TrustDeskModel_cond : mj_Y := (⟨"TrustDeskModel", "cond", "()V"⟩, prog_14_method_32_code, 1, (Option.none : Option Jvm.ClassFile.FieldType))
theorem d_TrustDeskModel_cond_0 : decode kY_TrustDeskModel_cond.2.1 0 = .ok (.aload_n 0, 1) := by decide +kernel
theorem d_TrustDeskModel_cond_1 : decode kY_TrustDeskModel_cond.2.1 1 = .ok (.invokevirtual 312, 3) := by decide +kernel
abbrev kY_TrustDeskModel_both : mj_Y := (⟨"TrustDeskModel", "both", "()V"⟩, prog_14_method_31_code, 1, (Option.none : Option Jvm.ClassFile.FieldType))
theorem d_TrustDeskModel_both_0 : decode kY_TrustDeskModel_both.2.1 0 = .ok (.aload_n 0, 1) := by decide +kernel
theorem d_TrustDeskModel_both_1 : decode kY_TrustDeskModel_both.2.1 1 = .ok (.invokevirtual 308, 3) := by decide +kernel
abbrev kY_TrustDeskModel_part_0 : mj_Y := (⟨"TrustDeskModel", "part", "()V"⟩, prog_14_method_30_code, 2, (Option.none : Option Jvm.ClassFile.FieldType))
theorem d_TrustDeskModel_part_0_0 : decode kY_TrustDeskModel_part_0.2.1 0 = .ok (.iconst 0, 1) := by decide +kernel
theorem d_TrustDeskModel_part_0_1 : decode kY_TrustDeskModel_part_0.2.1 1 = .ok (.istore_n 1, 1) := by decide +kernel
theorem d_TrustDeskModel_part_0_2 : decode kY_TrustDeskModel_part_0.2.1 2 = .ok (.aload_n 0, 1) := by decide +kernel
theorem d_TrustDeskModel_part_0_3 : decode kY_TrustDeskModel_part_0.2.1 3 = .ok (.invokevirtual 230, 3) := by decide +kernel
abbrev kY_TrustDeskModel_isWell : mj_Y := (⟨"TrustDeskModel", "isWell", "()Z"⟩, prog_14_method_20_code, 1, (Option.some Jvm.ClassFile.FieldType.boolean))
theorem lV_TrustDeskModel_230 : mj_lV "TrustDeskModel" 230 kY_TrustDeskModel_isWell 0 := ⟨⟨(mj_in1 (List.mem_of_getElem? (i := 1662) (by decide +kernel)) rfl), (mj_in1 (List.mem_of_getElem? (i := 10) (by decide +kernel)) rfl), (mj_in1 (List.mem_of_getElem? (i := 1665) (by decide +kernel)) rfl), by decide, rfl, by decide⟩, (mj_in1 (List.mem_of_getElem? (i := 1664) (by decide +kernel)) rfl), (mj_in (List.mem_append_left _ (List.mem_of_getElem? (i := 83) (by decide +kernel))) rfl)⟩
theorem d_TrustDeskModel_isWell_0 : decode kY_TrustDeskModel_isWell.2.1 0 = .ok (.aload_n 0, 1) := by decide +kernel
theorem d_TrustDeskModel_isWell_1 : decode kY_TrustDeskModel_isWell.2.1 1 = .ok (.getfield 224, 3) := by decide +kernel
theorem f_TrustDeskModel_224_13 : mj_fl "TrustDeskModel" 224 13 19 := ⟨kR_TrustDeskModel, kF_TrustDeskModel, 72, "TrustDeskModel", rfl, kg_13, by decide, (mj_in1 (List.mem_of_getElem? (i := 1405) (by decide +kernel)) rfl), Or.inl rfl⟩
theorem d_TrustDeskModel_isWell_4 : decode kY_TrustDeskModel_isWell.2.1 4 = .ok (.ifCond .ne 7, 3) := by decide +kernel
theorem d_TrustDeskModel_isWell_11 : decode kY_TrustDeskModel_isWell.2.1 11 = .ok (.iconst 0, 1) := by decide +kernel
theorem d_TrustDeskModel_isWell_12 : decode kY_TrustDeskModel_isWell.2.1 12 = .ok (.ireturn, 1) := by decide +kernel
theorem d_TrustDeskModel_part_0_6 : decode kY_TrustDeskModel_part_0.2.1 6 = .ok (.ifCond .eq 30, 3) := by decide +kernel
theorem d_TrustDeskModel_part_0_36 : decode kY_TrustDeskModel_part_0.2.1 36 = .ok (.aload_n 0, 1) := by decide +kernel
theorem d_TrustDeskModel_part_0_37 : decode kY_TrustDeskModel_part_0.2.1 37 = .ok (.invokevirtual 230, 3) := by decide +kernel
theorem d_TrustDeskModel_part_0_40 : decode kY_TrustDeskModel_part_0.2.1 40 = .ok (.ifCond .ne 4, 3) := by decide +kernel
theorem d_TrustDeskModel_part_0_43 : decode kY_TrustDeskModel_part_0.2.1 43 = .ok (.return_, 1) := by decide +kernel
theorem d_TrustDeskModel_isWell_7 : decode kY_TrustDeskModel_isWell.2.1 7 = .ok (.iconst 1, 1) := by decide +kernel
theorem d_TrustDeskModel_isWell_8 : decode kY_TrustDeskModel_isWell.2.1 8 = .ok (.goto 4, 3) := by decide +kernel
theorem d_TrustDeskModel_part_0_44 : decode kY_TrustDeskModel_part_0.2.1 44 = .ok (.aload_n 0, 1) := by decide +kernel
theorem d_TrustDeskModel_part_0_45 : decode kY_TrustDeskModel_part_0.2.1 45 = .ok (.bipush 91, 2) := by decide +kernel
theorem d_TrustDeskModel_part_0_47 : decode kY_TrustDeskModel_part_0.2.1 47 = .ok (.invokevirtual 234, 3) := by decide +kernel
abbrev kY_TrustDeskModel_isSign : mj_Y := (⟨"TrustDeskModel", "isSign", "(I)Z"⟩, prog_14_method_18_code, 2, (Option.some Jvm.ClassFile.FieldType.boolean))
theorem lV_TrustDeskModel_234 : mj_lV "TrustDeskModel" 234 kY_TrustDeskModel_isSign 1 := ⟨⟨(mj_in1 (List.mem_of_getElem? (i := 1717) (by decide +kernel)) rfl), (mj_in1 (List.mem_of_getElem? (i := 10) (by decide +kernel)) rfl), (mj_in1 (List.mem_of_getElem? (i := 1720) (by decide +kernel)) rfl), by decide, rfl, by decide⟩, (mj_in1 (List.mem_of_getElem? (i := 1719) (by decide +kernel)) rfl), (mj_in (List.mem_append_left _ (List.mem_of_getElem? (i := 93) (by decide +kernel))) rfl)⟩
theorem d_TrustDeskModel_isSign_0 : decode kY_TrustDeskModel_isSign.2.1 0 = .ok (.aload_n 0, 1) := by decide +kernel
theorem d_TrustDeskModel_isSign_1 : decode kY_TrustDeskModel_isSign.2.1 1 = .ok (.getfield 198, 3) := by decide +kernel
theorem f_TrustDeskModel_198_13 : mj_fl "TrustDeskModel" 198 13 17 := ⟨kR_TrustDeskModel, kF_TrustDeskModel, 72, "TrustDeskModel", rfl, kg_13, by decide, (mj_in1 (List.mem_of_getElem? (i := 1403) (by decide +kernel)) rfl), Or.inl rfl⟩
theorem d_TrustDeskModel_isSign_4 : decode kY_TrustDeskModel_isSign.2.1 4 = .ok (.iconst 4, 1) := by decide +kernel
theorem d_TrustDeskModel_isSign_5 : decode kY_TrustDeskModel_isSign.2.1 5 = .ok (.if_icmp .ne 15, 3) := by decide +kernel
theorem d_TrustDeskModel_isSign_20 : decode kY_TrustDeskModel_isSign.2.1 20 = .ok (.iconst 0, 1) := by decide +kernel
theorem d_TrustDeskModel_isSign_21 : decode kY_TrustDeskModel_isSign.2.1 21 = .ok (.ireturn, 1) := by decide +kernel
theorem d_TrustDeskModel_part_0_50 : decode kY_TrustDeskModel_part_0.2.1 50 = .ok (.ifCond .eq 30, 3) := by decide +kernel
theorem d_TrustDeskModel_part_0_80 : decode kY_TrustDeskModel_part_0.2.1 80 = .ok (.aload_n 0, 1) := by decide +kernel
theorem d_TrustDeskModel_part_0_81 : decode kY_TrustDeskModel_part_0.2.1 81 = .ok (.invokevirtual 305, 3) := by decide +kernel
abbrev kY_TrustDeskModel_compares : mj_Y := (⟨"TrustDeskModel", "compares", "()V"⟩, prog_14_method_29_code, 2, (Option.none : Option Jvm.ClassFile.FieldType))
theorem d_TrustDeskModel_compares_0 : decode kY_TrustDeskModel_compares.2.1 0 = .ok (.aload_n 0, 1) := by decide +kernel
theorem d_TrustDeskModel_compares_1 : decode kY_TrustDeskModel_compares.2.1 1 = .ok (.invokevirtual 288, 3) := by decide +kernel
abbrev kY_TrustDeskModel_sum : mj_Y := (⟨"TrustDeskModel", "sum", "()V"⟩, prog_14_method_28_code, 2, (Option.none : Option Jvm.ClassFile.FieldType))
theorem d_TrustDeskModel_sum_0 : decode kY_TrustDeskModel_sum.2.1 0 = .ok (.aload_n 0, 1) := by decide +kernel
theorem d_TrustDeskModel_sum_1 : decode kY_TrustDeskModel_sum.2.1 1 = .ok (.invokevirtual 297, 3) := by decide +kernel
abbrev kY_TrustDeskModel_product : mj_Y := (⟨"TrustDeskModel", "product", "()V"⟩, prog_14_method_27_code, 1, (Option.none : Option Jvm.ClassFile.FieldType))
theorem d_TrustDeskModel_product_0 : decode kY_TrustDeskModel_product.2.1 0 = .ok (.aload_n 0, 1) := by decide +kernel
theorem d_TrustDeskModel_product_1 : decode kY_TrustDeskModel_product.2.1 1 = .ok (.invokevirtual 294, 3) := by decide +kernel
abbrev kY_TrustDeskModel_factor : mj_Y := (⟨"TrustDeskModel", "factor", "()V"⟩, prog_14_method_26_code, 2, (Option.none : Option Jvm.ClassFile.FieldType))
theorem d_TrustDeskModel_factor_0 : decode kY_TrustDeskModel_factor.2.1 0 = .ok (.aload_n 0, 1) := by decide +kernel
theorem d_TrustDeskModel_factor_1 : decode kY_TrustDeskModel_factor.2.1 1 = .ok (.invokevirtual 230, 3) := by decide +kernel
theorem d_TrustDeskModel_factor_4 : decode kY_TrustDeskModel_factor.2.1 4 = .ok (.ifCond .ne 4, 3) := by decide +kernel
theorem d_TrustDeskModel_factor_7 : decode kY_TrustDeskModel_factor.2.1 7 = .ok (.return_, 1) := by decide +kernel
theorem d_TrustDeskModel_factor_8 : decode kY_TrustDeskModel_factor.2.1 8 = .ok (.aload_n 0, 1) := by decide +kernel
theorem d_TrustDeskModel_factor_9 : decode kY_TrustDeskModel_factor.2.1 9 = .ok (.getfield 198, 3) := by decide +kernel
theorem d_TrustDeskModel_factor_12 : decode kY_TrustDeskModel_factor.2.1 12 = .ok (.iconst 2, 1) := by decide +kernel
theorem d_TrustDeskModel_factor_13 : decode kY_TrustDeskModel_factor.2.1 13 = .ok (.if_icmp .ne 18, 3) := by decide +kernel
theorem d_TrustDeskModel_factor_31 : decode kY_TrustDeskModel_factor.2.1 31 = .ok (.aload_n 0, 1) := by decide +kernel
theorem d_TrustDeskModel_factor_32 : decode kY_TrustDeskModel_factor.2.1 32 = .ok (.getfield 198, 3) := by decide +kernel
theorem d_TrustDeskModel_factor_35 : decode kY_TrustDeskModel_factor.2.1 35 = .ok (.iconst 3, 1) := by decide +kernel
theorem d_TrustDeskModel_factor_36 : decode kY_TrustDeskModel_factor.2.1 36 = .ok (.if_icmp .ne 41, 3) := by decide +kernel
theorem d_TrustDeskModel_factor_77 : decode kY_TrustDeskModel_factor.2.1 77 = .ok (.aload_n 0, 1) := by decide +kernel
theorem d_TrustDeskModel_factor_78 : decode kY_TrustDeskModel_factor.2.1 78 = .ok (.bipush 40, 2) := by decide +kernel
theorem d_TrustDeskModel_factor_80 : decode kY_TrustDeskModel_factor.2.1 80 = .ok (.invokevirtual 234, 3) := by decide +kernel
theorem d_TrustDeskModel_factor_83 : decode kY_TrustDeskModel_factor.2.1 83 = .ok (.ifCond .eq 30, 3) := by decide +kernel
theorem d_TrustDeskModel_factor_113 : decode kY_TrustDeskModel_factor.2.1 113 = .ok (.aload_n 0, 1) := by decide +kernel
theorem d_TrustDeskModel_factor_114 : decode kY_TrustDeskModel_factor.2.1 114 = .ok (.iconst 1, 1) := by decide +kernel
theorem d_TrustDeskModel_factor_115 : decode kY_TrustDeskModel_factor.2.1 115 = .ok (.invokevirtual 240, 3) := by decide +kernel
abbrev kY_TrustDeskModel_fails : mj_Y := (⟨"TrustDeskModel", "fails", "(I)V"⟩, prog_14_method_19_code, 2, (Option.none : Option Jvm.ClassFile.FieldType))
theorem d_TrustDeskModel_fails_0 : decode kY_TrustDeskModel_fails.2.1 0 = .ok (.aload_n 0, 1) := by decide +kernel
theorem d_TrustDeskModel_fails_1 : decode kY_TrustDeskModel_fails.2.1 1 = .ok (.getfield 224, 3) := by decide +kernel
theorem d_TrustDeskModel_fails_4 : decode kY_TrustDeskModel_fails.2.1 4 = .ok (.ifCond .eq 4, 3) := by decide +kernel
theorem d_TrustDeskModel_fails_8 : decode kY_TrustDeskModel_fails.2.1 8 = .ok (.aload_n 0, 1) := by decide +kernel
theorem d_TrustDeskModel_fails_9 : decode kY_TrustDeskModel_fails.2.1 9 = .ok (.iload_n 1, 1) := by decide +kernel
theorem d_TrustDeskModel_fails_10 : decode kY_TrustDeskModel_fails.2.1 10 = .ok (.putfield 224, 3) := by decide +kernel
theorem p_TrustDeskModel_224_13 : mj_fp "TrustDeskModel" 224 13 19 (kt_TrustDeskModel 19) false := ⟨kR_TrustDeskModel, kF_TrustDeskModel, 72, "TrustDeskModel", kt_TrustDeskModel, rfl, kg_13, by decide, (mj_in1 (List.mem_of_getElem? (i := 1405) (by decide +kernel)) rfl), Or.inl rfl, kto_TrustDeskModel, kn_TrustDeskModel, rfl, rfl, fun h => by cases h⟩
theorem d_TrustDeskModel_fails_13 : decode kY_TrustDeskModel_fails.2.1 13 = .ok (.aload_n 0, 1) := by decide +kernel
theorem d_TrustDeskModel_fails_14 : decode kY_TrustDeskModel_fails.2.1 14 = .ok (.aload_n 0, 1) := by decide +kernel
theorem d_TrustDeskModel_fails_15 : decode kY_TrustDeskModel_fails.2.1 15 = .ok (.getfield 195, 3) := by decide +kernel
theorem f_TrustDeskModel_195_13 : mj_fl "TrustDeskModel" 195 13 16 := ⟨kR_TrustDeskModel, kF_TrustDeskModel, 72, "TrustDeskModel", rfl, kg_13, by decide, (mj_in1 (List.mem_of_getElem? (i := 1402) (by decide +kernel)) rfl), Or.inl rfl⟩
theorem d_TrustDeskModel_fails_18 : decode kY_TrustDeskModel_fails.2.1 18 = .ok (.putfield 227, 3) := by decide +kernel
theorem p_TrustDeskModel_227_13 : mj_fp "TrustDeskModel" 227 13 20 (kt_TrustDeskModel 20) false := ⟨kR_TrustDeskModel, kF_TrustDeskModel, 72, "TrustDeskModel", kt_TrustDeskModel, rfl, kg_13, by decide, (mj_in1 (List.mem_of_getElem? (i := 1406) (by decide +kernel)) rfl), Or.inl rfl, kto_TrustDeskModel, kn_TrustDeskModel, rfl, rfl, fun h => by cases h⟩
theorem d_TrustDeskModel_fails_21 : decode kY_TrustDeskModel_fails.2.1 21 = .ok (.return_, 1) := by decide +kernel
theorem d_TrustDeskModel_fails_7 : decode kY_TrustDeskModel_fails.2.1 7 = .ok (.return_, 1) := by decide +kernel
def w_TrustDeskModel_fails_x : List Nat := [1319, 1320]
theorem tc_TrustDeskModel_fails_x {g : mj_G} {l : Launch} {d : Nat} {T0 : tm_H} {M0 : mj_M} {n0 x9 : Nat} {o0 : Nat} {x1 : Int32} (h_o0 : T0 o0 = some (0, 13, 0)) (yR : rI M0 o0) (yf : 1 ≤ x1.toInt ∧ x1.toInt ≤ 4) (I0 : tm_I tm_FT (tm_in w_TrustDeskModel_fails_x) x9 T0 M0 n0 T0 M0 n0) : mj_Met g l kY_TrustDeskModel_fails d [.ref o0, .int x1] M0 n0 0 0 (tm_Q tm_FT (tm_in w_TrustDeskModel_fails_x) x9 T0 M0 n0 (fun r _ M => r = none ∧ rI M o0 ∧ (rv M o0 19 ≠ 0))) := by
  refine mj_enter (by decide) (Nat.le_of_ble_eq_true rfl) ?_
  refine mv_aload_n d_TrustDeskModel_fails_0 rfl rfl ?_
  obtain ⟨v2, q1⟩ := tm_atI I0 h_o0 (k := 19) rfl
  refine tr_getK q1 d_TrustDeskModel_fails_1 f_TrustDeskModel_224_13 ?_
  have := yR.f (k := 19) q1 rfl
  have := tm_rv q1
  have := mz_hi v2
  refine mv_if_eqZ (tgt := 8) (a := v2.toInt) d_TrustDeskModel_fails_4 (by decide) rfl (fun b3 => ?_) (fun b3 => ?_)
  · refine mv_aload_n d_TrustDeskModel_fails_8 rfl rfl ?_
    refine mv_iload_n d_TrustDeskModel_fails_9 rfl rfl ?_
    refine tr_putR (k := 19) I0 yR h_o0 rfl ⟨_, rfl⟩ (fun _ h => by cases h) rfl (fun lo hi h => by cases h; have := yR.1 15 _ _ rfl; have := yR.1 16 _ _ rfl; have := yR.1 19 _ _ rfl; exact ⟨by show (0 : Int) ≤ x1.toInt; omega, by show x1.toInt ≤ (4 : Int); omega⟩) (Or.inl (by decide)) d_TrustDeskModel_fails_10 p_TrustDeskModel_224_13 rfl rfl (fun M4 I5 q6 K7 R8 A9 V10 => ?_)
    have := V10 16 (by decide)
    have := V10 17 (by decide)
    have := V10 22 (by decide)
    have := tm_rv q6
    refine mv_aload_n d_TrustDeskModel_fails_13 rfl rfl ?_
    refine mv_aload_n d_TrustDeskModel_fails_14 rfl rfl ?_
    obtain ⟨v12, q11⟩ := tm_atI I5 h_o0 (k := 16) rfl
    refine tr_getK q11 d_TrustDeskModel_fails_15 f_TrustDeskModel_195_13 ?_
    have := R8.f (k := 16) q11 rfl
    have := tm_rv q11
    refine tr_putR (k := 20) I5 R8 h_o0 rfl ⟨_, rfl⟩ (fun _ h => by cases h) rfl (fun lo hi h => by cases h) (Or.inl (by decide)) d_TrustDeskModel_fails_18 p_TrustDeskModel_227_13 rfl rfl (fun M13 I14 q15 K16 R17 A18 V19 => ?_)
    have := V19 16 (by decide)
    have := V19 17 (by decide)
    have := V19 19 (by decide)
    have := V19 22 (by decide)
    exact mv_vret d_TrustDeskModel_fails_21 rfl ⟨_, I14, rfl, R17, (by have := R17.1 15 _ _ rfl; have := R17.1 16 _ _ rfl; have := R17.1 19 _ _ rfl; omega)⟩
  · exact mv_vret d_TrustDeskModel_fails_7 rfl ⟨_, I0, rfl, yR, (by have := yR.1 15 _ _ rfl; have := yR.1 16 _ _ rfl; have := yR.1 19 _ _ rfl; omega)⟩
theorem lV_TrustDeskModel_240 : mj_lV "TrustDeskModel" 240 kY_TrustDeskModel_fails 1 := ⟨⟨(mj_in1 (List.mem_of_getElem? (i := 1687) (by decide +kernel)) rfl), (mj_in1 (List.mem_of_getElem? (i := 10) (by decide +kernel)) rfl), (mj_in1 (List.mem_of_getElem? (i := 1690) (by decide +kernel)) rfl), by decide, rfl, by decide⟩, (mj_in1 (List.mem_of_getElem? (i := 1689) (by decide +kernel)) rfl), (mj_in (List.mem_append_left _ (List.mem_of_getElem? (i := 87) (by decide +kernel))) rfl)⟩
theorem d_TrustDeskModel_factor_118 : decode kY_TrustDeskModel_factor.2.1 118 = .ok (.return_, 1) := by decide +kernel
theorem d_TrustDeskModel_isSign_8 : decode kY_TrustDeskModel_isSign.2.1 8 = .ok (.aload_n 0, 1) := by decide +kernel
theorem d_TrustDeskModel_isSign_9 : decode kY_TrustDeskModel_isSign.2.1 9 = .ok (.getfield 201, 3) := by decide +kernel
theorem f_TrustDeskModel_201_13 : mj_fl "TrustDeskModel" 201 13 18 := ⟨kR_TrustDeskModel, kF_TrustDeskModel, 72, "TrustDeskModel", rfl, kg_13, by decide, (mj_in1 (List.mem_of_getElem? (i := 1404) (by decide +kernel)) rfl), Or.inl rfl⟩
theorem d_TrustDeskModel_isSign_12 : decode kY_TrustDeskModel_isSign.2.1 12 = .ok (.iload_n 1, 1) := by decide +kernel
theorem d_TrustDeskModel_isSign_13 : decode kY_TrustDeskModel_isSign.2.1 13 = .ok (.if_icmp .ne 7, 3) := by decide +kernel
theorem d_TrustDeskModel_isSign_16 : decode kY_TrustDeskModel_isSign.2.1 16 = .ok (.iconst 1, 1) := by decide +kernel
theorem d_TrustDeskModel_isSign_17 : decode kY_TrustDeskModel_isSign.2.1 17 = .ok (.goto 4, 3) := by decide +kernel
theorem d_TrustDeskModel_factor_86 : decode kY_TrustDeskModel_factor.2.1 86 = .ok (.aload_n 0, 1) := by decide +kernel
theorem d_TrustDeskModel_factor_87 : decode kY_TrustDeskModel_factor.2.1 87 = .ok (.invokevirtual 285, 3) := by decide +kernel
abbrev kY_TrustDeskModel_opens : mj_Y := (⟨"TrustDeskModel", "opens", "()V"⟩, prog_14_method_25_code, 1, (Option.none : Option Jvm.ClassFile.FieldType))
theorem d_TrustDeskModel_opens_0 : decode kY_TrustDeskModel_opens.2.1 0 = .ok (.aload_n 0, 1) := by decide +kernel
theorem d_TrustDeskModel_opens_1 : decode kY_TrustDeskModel_opens.2.1 1 = .ok (.getfield 276, 3) := by decide +kernel
theorem f_TrustDeskModel_276_13 : mj_fl "TrustDeskModel" 276 13 22 := ⟨kR_TrustDeskModel, kF_TrustDeskModel, 72, "TrustDeskModel", rfl, kg_13, by decide, (mj_in1 (List.mem_of_getElem? (i := 1408) (by decide +kernel)) rfl), Or.inl rfl⟩
theorem d_TrustDeskModel_opens_4 : decode kY_TrustDeskModel_opens.2.1 4 = .ok (.iconst 4, 1) := by decide +kernel
theorem d_TrustDeskModel_opens_5 : decode kY_TrustDeskModel_opens.2.1 5 = .ok (.if_icmp .ne 8, 3) := by decide +kernel
theorem d_TrustDeskModel_opens_13 : decode kY_TrustDeskModel_opens.2.1 13 = .ok (.aload_n 0, 1) := by decide +kernel
theorem d_TrustDeskModel_opens_14 : decode kY_TrustDeskModel_opens.2.1 14 = .ok (.invokevirtual 230, 3) := by decide +kernel
theorem d_TrustDeskModel_opens_17 : decode kY_TrustDeskModel_opens.2.1 17 = .ok (.ifCond .ne 4, 3) := by decide +kernel
theorem d_TrustDeskModel_opens_20 : decode kY_TrustDeskModel_opens.2.1 20 = .ok (.return_, 1) := by decide +kernel
theorem d_TrustDeskModel_opens_21 : decode kY_TrustDeskModel_opens.2.1 21 = .ok (.aload_n 0, 1) := by decide +kernel
theorem d_TrustDeskModel_opens_22 : decode kY_TrustDeskModel_opens.2.1 22 = .ok (.dup, 1) := by decide +kernel
theorem d_TrustDeskModel_opens_23 : decode kY_TrustDeskModel_opens.2.1 23 = .ok (.getfield 276, 3) := by decide +kernel
theorem d_TrustDeskModel_opens_26 : decode kY_TrustDeskModel_opens.2.1 26 = .ok (.iconst 1, 1) := by decide +kernel
theorem d_TrustDeskModel_opens_27 : decode kY_TrustDeskModel_opens.2.1 27 = .ok (.iadd, 1) := by decide +kernel
theorem d_TrustDeskModel_opens_28 : decode kY_TrustDeskModel_opens.2.1 28 = .ok (.putfield 276, 3) := by decide +kernel
theorem p_TrustDeskModel_276_13 : mj_fp "TrustDeskModel" 276 13 22 (kt_TrustDeskModel 22) false := ⟨kR_TrustDeskModel, kF_TrustDeskModel, 72, "TrustDeskModel", kt_TrustDeskModel, rfl, kg_13, by decide, (mj_in1 (List.mem_of_getElem? (i := 1408) (by decide +kernel)) rfl), Or.inl rfl, kto_TrustDeskModel, kn_TrustDeskModel, rfl, rfl, fun h => by cases h⟩
theorem d_TrustDeskModel_opens_31 : decode kY_TrustDeskModel_opens.2.1 31 = .ok (.aload_n 0, 1) := by decide +kernel
theorem d_TrustDeskModel_opens_32 : decode kY_TrustDeskModel_opens.2.1 32 = .ok (.invokevirtual 237, 3) := by decide +kernel
abbrev kY_TrustDeskModel_next : mj_Y := (⟨"TrustDeskModel", "next", "()V"⟩, prog_14_method_16_code, 2, (Option.none : Option Jvm.ClassFile.FieldType))
theorem d_TrustDeskModel_next_0 : decode kY_TrustDeskModel_next.2.1 0 = .ok (.aload_n 0, 1) := by decide +kernel
theorem d_TrustDeskModel_next_1 : decode kY_TrustDeskModel_next.2.1 1 = .ok (.getfield 192, 3) := by decide +kernel
theorem f_TrustDeskModel_192_13 : mj_fl "TrustDeskModel" 192 13 15 := ⟨kR_TrustDeskModel, kF_TrustDeskModel, 72, "TrustDeskModel", rfl, kg_13, by decide, (mj_in1 (List.mem_of_getElem? (i := 1401) (by decide +kernel)) rfl), Or.inl rfl⟩
theorem d_TrustDeskModel_next_4 : decode kY_TrustDeskModel_next.2.1 4 = .ok (.aload_n 0, 1) := by decide +kernel
theorem d_TrustDeskModel_next_5 : decode kY_TrustDeskModel_next.2.1 5 = .ok (.getfield 189, 3) := by decide +kernel
theorem f_TrustDeskModel_189_13 : mj_fl "TrustDeskModel" 189 13 14 := ⟨kR_TrustDeskModel, kF_TrustDeskModel, 72, "TrustDeskModel", rfl, kg_13, by decide, (mj_in1 (List.mem_of_getElem? (i := 1400) (by decide +kernel)) rfl), Or.inl rfl⟩
theorem d_TrustDeskModel_next_8 : decode kY_TrustDeskModel_next.2.1 8 = .ok (.if_icmp .ge 44, 3) := by decide +kernel
theorem d_TrustDeskModel_next_52 : decode kY_TrustDeskModel_next.2.1 52 = .ok (.aload_n 0, 1) := by decide +kernel
theorem d_TrustDeskModel_next_53 : decode kY_TrustDeskModel_next.2.1 53 = .ok (.aload_n 0, 1) := by decide +kernel
theorem d_TrustDeskModel_next_54 : decode kY_TrustDeskModel_next.2.1 54 = .ok (.getfield 192, 3) := by decide +kernel
theorem d_TrustDeskModel_next_57 : decode kY_TrustDeskModel_next.2.1 57 = .ok (.putfield 195, 3) := by decide +kernel
theorem p_TrustDeskModel_195_13 : mj_fp "TrustDeskModel" 195 13 16 (kt_TrustDeskModel 16) false := ⟨kR_TrustDeskModel, kF_TrustDeskModel, 72, "TrustDeskModel", kt_TrustDeskModel, rfl, kg_13, by decide, (mj_in1 (List.mem_of_getElem? (i := 1402) (by decide +kernel)) rfl), Or.inl rfl, kto_TrustDeskModel, kn_TrustDeskModel, rfl, rfl, fun h => by cases h⟩
theorem d_TrustDeskModel_next_60 : decode kY_TrustDeskModel_next.2.1 60 = .ok (.aload_n 0, 1) := by decide +kernel
theorem d_TrustDeskModel_next_61 : decode kY_TrustDeskModel_next.2.1 61 = .ok (.getfield 192, 3) := by decide +kernel
theorem d_TrustDeskModel_next_64 : decode kY_TrustDeskModel_next.2.1 64 = .ok (.aload_n 0, 1) := by decide +kernel
theorem d_TrustDeskModel_next_65 : decode kY_TrustDeskModel_next.2.1 65 = .ok (.getfield 189, 3) := by decide +kernel
theorem d_TrustDeskModel_next_68 : decode kY_TrustDeskModel_next.2.1 68 = .ok (.if_icmp .lt 9, 3) := by decide +kernel
theorem d_TrustDeskModel_next_77 : decode kY_TrustDeskModel_next.2.1 77 = .ok (.aload_n 0, 1) := by decide +kernel
theorem d_TrustDeskModel_next_78 : decode kY_TrustDeskModel_next.2.1 78 = .ok (.getfield 44, 3) := by decide +kernel
theorem f_TrustDeskModel_44_13 : mj_fl "TrustDeskModel" 44 13 13 := ⟨kR_TrustDeskModel, kF_TrustDeskModel, 72, "TrustDeskModel", rfl, kg_13, by decide, (mj_in1 (List.mem_of_getElem? (i := 1399) (by decide +kernel)) rfl), Or.inl rfl⟩
theorem d_TrustDeskModel_next_81 : decode kY_TrustDeskModel_next.2.1 81 = .ok (.aload_n 0, 1) := by decide +kernel
theorem d_TrustDeskModel_next_82 : decode kY_TrustDeskModel_next.2.1 82 = .ok (.getfield 192, 3) := by decide +kernel
theorem d_TrustDeskModel_next_85 : decode kY_TrustDeskModel_next.2.1 85 = .ok (.baload, 1) := by decide +kernel
theorem d_TrustDeskModel_next_86 : decode kY_TrustDeskModel_next.2.1 86 = .ok (.istore_n 1, 1) := by decide +kernel
theorem d_TrustDeskModel_next_87 : decode kY_TrustDeskModel_next.2.1 87 = .ok (.aload_n 0, 1) := by decide +kernel
theorem d_TrustDeskModel_next_88 : decode kY_TrustDeskModel_next.2.1 88 = .ok (.dup, 1) := by decide +kernel
theorem d_TrustDeskModel_next_89 : decode kY_TrustDeskModel_next.2.1 89 = .ok (.getfield 192, 3) := by decide +kernel
theorem d_TrustDeskModel_next_92 : decode kY_TrustDeskModel_next.2.1 92 = .ok (.iconst 1, 1) := by decide +kernel
theorem d_TrustDeskModel_next_93 : decode kY_TrustDeskModel_next.2.1 93 = .ok (.iadd, 1) := by decide +kernel
theorem d_TrustDeskModel_next_94 : decode kY_TrustDeskModel_next.2.1 94 = .ok (.putfield 192, 3) := by decide +kernel
theorem p_TrustDeskModel_192_13 : mj_fp "TrustDeskModel" 192 13 15 (kt_TrustDeskModel 15) false := ⟨kR_TrustDeskModel, kF_TrustDeskModel, 72, "TrustDeskModel", kt_TrustDeskModel, rfl, kg_13, by decide, (mj_in1 (List.mem_of_getElem? (i := 1401) (by decide +kernel)) rfl), Or.inl rfl, kto_TrustDeskModel, kn_TrustDeskModel, rfl, rfl, fun h => by cases h⟩
theorem d_TrustDeskModel_next_97 : decode kY_TrustDeskModel_next.2.1 97 = .ok (.aload_n 0, 1) := by decide +kernel
theorem d_TrustDeskModel_next_98 : decode kY_TrustDeskModel_next.2.1 98 = .ok (.iload_n 1, 1) := by decide +kernel
theorem d_TrustDeskModel_next_99 : decode kY_TrustDeskModel_next.2.1 99 = .ok (.putfield 201, 3) := by decide +kernel
theorem p_TrustDeskModel_201_13 : mj_fp "TrustDeskModel" 201 13 18 (kt_TrustDeskModel 18) false := ⟨kR_TrustDeskModel, kF_TrustDeskModel, 72, "TrustDeskModel", kt_TrustDeskModel, rfl, kg_13, by decide, (mj_in1 (List.mem_of_getElem? (i := 1404) (by decide +kernel)) rfl), Or.inl rfl, kto_TrustDeskModel, kn_TrustDeskModel, rfl, rfl, fun h => by cases h⟩
theorem d_TrustDeskModel_next_102 : decode kY_TrustDeskModel_next.2.1 102 = .ok (.iload_n 1, 1) := by decide +kernel
theorem d_TrustDeskModel_next_103 : decode kY_TrustDeskModel_next.2.1 103 = .ok (.invokestatic 204, 3) := by decide +kernel
abbrev kY_TrustDeskModel_isSmall : mj_Y := (⟨"TrustDeskModel", "isSmall", "(I)Z"⟩, prog_14_method_14_code, 1, (Option.some Jvm.ClassFile.FieldType.boolean))
theorem lS_TrustDeskModel_204 : mj_lS "TrustDeskModel" 204 kY_TrustDeskModel_isSmall 1 := ⟨⟨(mj_in1 (List.mem_of_getElem? (i := 1652) (by decide +kernel)) rfl), (mj_in1 (List.mem_of_getElem? (i := 10) (by decide +kernel)) rfl), (mj_in1 (List.mem_of_getElem? (i := 1654) (by decide +kernel)) rfl), by decide, rfl, by decide⟩, (mj_in1 (List.mem_of_getElem? (i := 1653) (by decide +kernel)) rfl)⟩
theorem d_TrustDeskModel_isSmall_0 : decode kY_TrustDeskModel_isSmall.2.1 0 = .ok (.iload_n 0, 1) := by decide +kernel
theorem d_TrustDeskModel_isSmall_1 : decode kY_TrustDeskModel_isSmall.2.1 1 = .ok (.bipush 97, 2) := by decide +kernel
theorem d_TrustDeskModel_isSmall_3 : decode kY_TrustDeskModel_isSmall.2.1 3 = .ok (.if_icmp .lt 13, 3) := by decide +kernel
theorem d_TrustDeskModel_isSmall_16 : decode kY_TrustDeskModel_isSmall.2.1 16 = .ok (.iconst 0, 1) := by decide +kernel
theorem d_TrustDeskModel_isSmall_17 : decode kY_TrustDeskModel_isSmall.2.1 17 = .ok (.ireturn, 1) := by decide +kernel
theorem d_TrustDeskModel_next_106 : decode kY_TrustDeskModel_next.2.1 106 = .ok (.ifCond .eq 38, 3) := by decide +kernel
theorem d_TrustDeskModel_next_144 : decode kY_TrustDeskModel_next.2.1 144 = .ok (.iload_n 1, 1) := by decide +kernel
theorem d_TrustDeskModel_next_145 : decode kY_TrustDeskModel_next.2.1 145 = .ok (.invokestatic 211, 3) := by decide +kernel
abbrev kY_TrustDeskModel_isDigit : mj_Y := (⟨"TrustDeskModel", "isDigit", "(I)Z"⟩, prog_14_method_15_code, 1, (Option.some Jvm.ClassFile.FieldType.boolean))
theorem lS_TrustDeskModel_211 : mj_lS "TrustDeskModel" 211 kY_TrustDeskModel_isDigit 1 := ⟨⟨(mj_in1 (List.mem_of_getElem? (i := 1659) (by decide +kernel)) rfl), (mj_in1 (List.mem_of_getElem? (i := 10) (by decide +kernel)) rfl), (mj_in1 (List.mem_of_getElem? (i := 1661) (by decide +kernel)) rfl), by decide, rfl, by decide⟩, (mj_in1 (List.mem_of_getElem? (i := 1660) (by decide +kernel)) rfl)⟩
theorem d_TrustDeskModel_isDigit_0 : decode kY_TrustDeskModel_isDigit.2.1 0 = .ok (.iload_n 0, 1) := by decide +kernel
theorem d_TrustDeskModel_isDigit_1 : decode kY_TrustDeskModel_isDigit.2.1 1 = .ok (.bipush 48, 2) := by decide +kernel
theorem d_TrustDeskModel_isDigit_3 : decode kY_TrustDeskModel_isDigit.2.1 3 = .ok (.if_icmp .lt 13, 3) := by decide +kernel
theorem d_TrustDeskModel_isDigit_16 : decode kY_TrustDeskModel_isDigit.2.1 16 = .ok (.iconst 0, 1) := by decide +kernel
theorem d_TrustDeskModel_isDigit_17 : decode kY_TrustDeskModel_isDigit.2.1 17 = .ok (.ireturn, 1) := by decide +kernel
theorem d_TrustDeskModel_next_148 : decode kY_TrustDeskModel_next.2.1 148 = .ok (.ifCond .eq 99, 3) := by decide +kernel
theorem d_TrustDeskModel_next_247 : decode kY_TrustDeskModel_next.2.1 247 = .ok (.aload_n 0, 1) := by decide +kernel
theorem d_TrustDeskModel_next_248 : decode kY_TrustDeskModel_next.2.1 248 = .ok (.iconst 4, 1) := by decide +kernel
theorem d_TrustDeskModel_next_249 : decode kY_TrustDeskModel_next.2.1 249 = .ok (.putfield 198, 3) := by decide +kernel
theorem p_TrustDeskModel_198_13 : mj_fp "TrustDeskModel" 198 13 17 (kt_TrustDeskModel 17) false := ⟨kR_TrustDeskModel, kF_TrustDeskModel, 72, "TrustDeskModel", kt_TrustDeskModel, rfl, kg_13, by decide, (mj_in1 (List.mem_of_getElem? (i := 1403) (by decide +kernel)) rfl), Or.inl rfl, kto_TrustDeskModel, kn_TrustDeskModel, rfl, rfl, fun h => by cases h⟩
theorem d_TrustDeskModel_next_252 : decode kY_TrustDeskModel_next.2.1 252 = .ok (.return_, 1) := by decide +kernel
theorem d_TrustDeskModel_isDigit_6 : decode kY_TrustDeskModel_isDigit.2.1 6 = .ok (.iload_n 0, 1) := by decide +kernel
theorem d_TrustDeskModel_isDigit_7 : decode kY_TrustDeskModel_isDigit.2.1 7 = .ok (.bipush 57, 2) := by decide +kernel
theorem d_TrustDeskModel_isDigit_9 : decode kY_TrustDeskModel_isDigit.2.1 9 = .ok (.if_icmp .gt 7, 3) := by decide +kernel
theorem d_TrustDeskModel_isDigit_12 : decode kY_TrustDeskModel_isDigit.2.1 12 = .ok (.iconst 1, 1) := by decide +kernel
theorem d_TrustDeskModel_isDigit_13 : decode kY_TrustDeskModel_isDigit.2.1 13 = .ok (.goto 4, 3) := by decide +kernel
theorem d_TrustDeskModel_next_151 : decode kY_TrustDeskModel_next.2.1 151 = .ok (.aload_n 0, 1) := by decide +kernel
theorem d_TrustDeskModel_next_152 : decode kY_TrustDeskModel_next.2.1 152 = .ok (.iload_n 1, 1) := by decide +kernel
theorem d_TrustDeskModel_next_153 : decode kY_TrustDeskModel_next.2.1 153 = .ok (.bipush 48, 2) := by decide +kernel
theorem d_TrustDeskModel_next_155 : decode kY_TrustDeskModel_next.2.1 155 = .ok (.isub, 1) := by decide +kernel
theorem d_TrustDeskModel_next_156 : decode kY_TrustDeskModel_next.2.1 156 = .ok (.putfield 201, 3) := by decide +kernel
theorem d_TrustDeskModel_next_159 : decode kY_TrustDeskModel_next.2.1 159 = .ok (.aload_n 0, 1) := by decide +kernel
theorem d_TrustDeskModel_next_160 : decode kY_TrustDeskModel_next.2.1 160 = .ok (.aload_n 0, 1) := by decide +kernel
theorem d_TrustDeskModel_next_161 : decode kY_TrustDeskModel_next.2.1 161 = .ok (.getfield 192, 3) := by decide +kernel
theorem d_TrustDeskModel_next_164 : decode kY_TrustDeskModel_next.2.1 164 = .ok (.invokevirtual 207, 3) := by decide +kernel
abbrev kY_TrustDeskModel_see : mj_Y := (⟨"TrustDeskModel", "see", "(I)I"⟩, prog_14_method_13_code, 2, (Option.some Jvm.ClassFile.FieldType.int))
theorem lV_TrustDeskModel_207 : mj_lV "TrustDeskModel" 207 kY_TrustDeskModel_see 1 := ⟨⟨(mj_in1 (List.mem_of_getElem? (i := 1655) (by decide +kernel)) rfl), (mj_in1 (List.mem_of_getElem? (i := 10) (by decide +kernel)) rfl), (mj_in1 (List.mem_of_getElem? (i := 1658) (by decide +kernel)) rfl), by decide, rfl, by decide⟩, (mj_in1 (List.mem_of_getElem? (i := 1657) (by decide +kernel)) rfl), (mj_in (List.mem_append_left _ (List.mem_of_getElem? (i := 82) (by decide +kernel))) rfl)⟩
theorem d_TrustDeskModel_see_0 : decode kY_TrustDeskModel_see.2.1 0 = .ok (.iload_n 1, 1) := by decide +kernel
theorem d_TrustDeskModel_see_1 : decode kY_TrustDeskModel_see.2.1 1 = .ok (.aload_n 0, 1) := by decide +kernel
theorem d_TrustDeskModel_see_2 : decode kY_TrustDeskModel_see.2.1 2 = .ok (.getfield 189, 3) := by decide +kernel
theorem d_TrustDeskModel_see_5 : decode kY_TrustDeskModel_see.2.1 5 = .ok (.if_icmp .ge 12, 3) := by decide +kernel
theorem d_TrustDeskModel_see_17 : decode kY_TrustDeskModel_see.2.1 17 = .ok (.iconst 0, 1) := by decide +kernel
theorem d_TrustDeskModel_see_18 : decode kY_TrustDeskModel_see.2.1 18 = .ok (.ireturn, 1) := by decide +kernel
theorem d_TrustDeskModel_next_167 : decode kY_TrustDeskModel_next.2.1 167 = .ok (.invokestatic 211, 3) := by decide +kernel
theorem d_TrustDeskModel_next_170 : decode kY_TrustDeskModel_next.2.1 170 = .ok (.ifCond .eq 52, 3) := by decide +kernel
theorem d_TrustDeskModel_next_222 : decode kY_TrustDeskModel_next.2.1 222 = .ok (.aload_n 0, 1) := by decide +kernel
theorem d_TrustDeskModel_next_223 : decode kY_TrustDeskModel_next.2.1 223 = .ok (.aload_n 0, 1) := by decide +kernel
theorem d_TrustDeskModel_next_224 : decode kY_TrustDeskModel_next.2.1 224 = .ok (.getfield 192, 3) := by decide +kernel
theorem d_TrustDeskModel_next_227 : decode kY_TrustDeskModel_next.2.1 227 = .ok (.aload_n 0, 1) := by decide +kernel
theorem d_TrustDeskModel_next_228 : decode kY_TrustDeskModel_next.2.1 228 = .ok (.getfield 195, 3) := by decide +kernel
theorem d_TrustDeskModel_next_231 : decode kY_TrustDeskModel_next.2.1 231 = .ok (.isub, 1) := by decide +kernel
theorem d_TrustDeskModel_next_232 : decode kY_TrustDeskModel_next.2.1 232 = .ok (.iconst 4, 1) := by decide +kernel
theorem d_TrustDeskModel_next_233 : decode kY_TrustDeskModel_next.2.1 233 = .ok (.if_icmp .le 7, 3) := by decide +kernel
theorem d_TrustDeskModel_next_240 : decode kY_TrustDeskModel_next.2.1 240 = .ok (.iconst 2, 1) := by decide +kernel
theorem d_TrustDeskModel_next_241 : decode kY_TrustDeskModel_next.2.1 241 = .ok (.putfield 198, 3) := by decide +kernel
theorem d_TrustDeskModel_next_244 : decode kY_TrustDeskModel_next.2.1 244 = .ok (.goto 8, 3) := by decide +kernel
theorem d_TrustDeskModel_next_236 : decode kY_TrustDeskModel_next.2.1 236 = .ok (.iconst 1, 1) := by decide +kernel
theorem d_TrustDeskModel_next_237 : decode kY_TrustDeskModel_next.2.1 237 = .ok (.goto 4, 3) := by decide +kernel
theorem d_TrustDeskModel_see_8 : decode kY_TrustDeskModel_see.2.1 8 = .ok (.aload_n 0, 1) := by decide +kernel
theorem d_TrustDeskModel_see_9 : decode kY_TrustDeskModel_see.2.1 9 = .ok (.getfield 44, 3) := by decide +kernel
theorem d_TrustDeskModel_see_12 : decode kY_TrustDeskModel_see.2.1 12 = .ok (.iload_n 1, 1) := by decide +kernel
theorem d_TrustDeskModel_see_13 : decode kY_TrustDeskModel_see.2.1 13 = .ok (.baload, 1) := by decide +kernel
theorem d_TrustDeskModel_see_14 : decode kY_TrustDeskModel_see.2.1 14 = .ok (.goto 4, 3) := by decide +kernel
theorem d_TrustDeskModel_next_173 : decode kY_TrustDeskModel_next.2.1 173 = .ok (.aload_n 0, 1) := by decide +kernel
theorem d_TrustDeskModel_next_174 : decode kY_TrustDeskModel_next.2.1 174 = .ok (.getfield 192, 3) := by decide +kernel
theorem d_TrustDeskModel_next_177 : decode kY_TrustDeskModel_next.2.1 177 = .ok (.aload_n 0, 1) := by decide +kernel
theorem d_TrustDeskModel_next_178 : decode kY_TrustDeskModel_next.2.1 178 = .ok (.getfield 195, 3) := by decide +kernel
theorem d_TrustDeskModel_next_181 : decode kY_TrustDeskModel_next.2.1 181 = .ok (.isub, 1) := by decide +kernel
theorem d_TrustDeskModel_next_182 : decode kY_TrustDeskModel_next.2.1 182 = .ok (.iconst 4, 1) := by decide +kernel
theorem d_TrustDeskModel_next_183 : decode kY_TrustDeskModel_next.2.1 183 = .ok (.if_icmp .ge 26, 3) := by decide +kernel
theorem d_TrustDeskModel_next_209 : decode kY_TrustDeskModel_next.2.1 209 = .ok (.aload_n 0, 1) := by decide +kernel
theorem d_TrustDeskModel_next_210 : decode kY_TrustDeskModel_next.2.1 210 = .ok (.dup, 1) := by decide +kernel
theorem d_TrustDeskModel_next_211 : decode kY_TrustDeskModel_next.2.1 211 = .ok (.getfield 192, 3) := by decide +kernel
theorem d_TrustDeskModel_next_214 : decode kY_TrustDeskModel_next.2.1 214 = .ok (.iconst 1, 1) := by decide +kernel
theorem d_TrustDeskModel_next_215 : decode kY_TrustDeskModel_next.2.1 215 = .ok (.iadd, 1) := by decide +kernel
theorem d_TrustDeskModel_next_216 : decode kY_TrustDeskModel_next.2.1 216 = .ok (.putfield 192, 3) := by decide +kernel
theorem d_TrustDeskModel_next_219 : decode kY_TrustDeskModel_next.2.1 219 = .ok (.goto (-60), 3) := by decide +kernel
theorem d_TrustDeskModel_next_186 : decode kY_TrustDeskModel_next.2.1 186 = .ok (.aload_n 0, 1) := by decide +kernel
theorem d_TrustDeskModel_next_187 : decode kY_TrustDeskModel_next.2.1 187 = .ok (.bipush 10, 2) := by decide +kernel
theorem d_TrustDeskModel_next_189 : decode kY_TrustDeskModel_next.2.1 189 = .ok (.aload_n 0, 1) := by decide +kernel
theorem d_TrustDeskModel_next_190 : decode kY_TrustDeskModel_next.2.1 190 = .ok (.getfield 201, 3) := by decide +kernel
theorem d_TrustDeskModel_next_193 : decode kY_TrustDeskModel_next.2.1 193 = .ok (.imul, 1) := by decide +kernel
theorem d_TrustDeskModel_next_194 : decode kY_TrustDeskModel_next.2.1 194 = .ok (.aload_n 0, 1) := by decide +kernel
theorem d_TrustDeskModel_next_195 : decode kY_TrustDeskModel_next.2.1 195 = .ok (.aload_n 0, 1) := by decide +kernel
theorem d_TrustDeskModel_next_196 : decode kY_TrustDeskModel_next.2.1 196 = .ok (.getfield 192, 3) := by decide +kernel
theorem d_TrustDeskModel_next_199 : decode kY_TrustDeskModel_next.2.1 199 = .ok (.invokevirtual 207, 3) := by decide +kernel
theorem d_TrustDeskModel_next_202 : decode kY_TrustDeskModel_next.2.1 202 = .ok (.iadd, 1) := by decide +kernel
theorem d_TrustDeskModel_next_203 : decode kY_TrustDeskModel_next.2.1 203 = .ok (.bipush 48, 2) := by decide +kernel
theorem d_TrustDeskModel_next_205 : decode kY_TrustDeskModel_next.2.1 205 = .ok (.isub, 1) := by decide +kernel
theorem d_TrustDeskModel_next_206 : decode kY_TrustDeskModel_next.2.1 206 = .ok (.putfield 201, 3) := by decide +kernel
theorem d_TrustDeskModel_isSmall_6 : decode kY_TrustDeskModel_isSmall.2.1 6 = .ok (.iload_n 0, 1) := by decide +kernel
theorem d_TrustDeskModel_isSmall_7 : decode kY_TrustDeskModel_isSmall.2.1 7 = .ok (.bipush 122, 2) := by decide +kernel
theorem d_TrustDeskModel_isSmall_9 : decode kY_TrustDeskModel_isSmall.2.1 9 = .ok (.if_icmp .gt 7, 3) := by decide +kernel
theorem d_TrustDeskModel_isSmall_12 : decode kY_TrustDeskModel_isSmall.2.1 12 = .ok (.iconst 1, 1) := by decide +kernel
theorem d_TrustDeskModel_isSmall_13 : decode kY_TrustDeskModel_isSmall.2.1 13 = .ok (.goto 4, 3) := by decide +kernel
theorem d_TrustDeskModel_next_109 : decode kY_TrustDeskModel_next.2.1 109 = .ok (.aload_n 0, 1) := by decide +kernel
theorem d_TrustDeskModel_next_110 : decode kY_TrustDeskModel_next.2.1 110 = .ok (.aload_n 0, 1) := by decide +kernel
theorem d_TrustDeskModel_next_111 : decode kY_TrustDeskModel_next.2.1 111 = .ok (.getfield 192, 3) := by decide +kernel
theorem d_TrustDeskModel_next_114 : decode kY_TrustDeskModel_next.2.1 114 = .ok (.invokevirtual 207, 3) := by decide +kernel
theorem d_TrustDeskModel_next_117 : decode kY_TrustDeskModel_next.2.1 117 = .ok (.invokestatic 204, 3) := by decide +kernel
theorem d_TrustDeskModel_next_120 : decode kY_TrustDeskModel_next.2.1 120 = .ok (.ifCond .eq 16, 3) := by decide +kernel
theorem d_TrustDeskModel_next_136 : decode kY_TrustDeskModel_next.2.1 136 = .ok (.aload_n 0, 1) := by decide +kernel
theorem d_TrustDeskModel_next_137 : decode kY_TrustDeskModel_next.2.1 137 = .ok (.iconst 3, 1) := by decide +kernel
theorem d_TrustDeskModel_next_138 : decode kY_TrustDeskModel_next.2.1 138 = .ok (.putfield 198, 3) := by decide +kernel
theorem d_TrustDeskModel_next_141 : decode kY_TrustDeskModel_next.2.1 141 = .ok (.goto 111, 3) := by decide +kernel
theorem d_TrustDeskModel_next_123 : decode kY_TrustDeskModel_next.2.1 123 = .ok (.aload_n 0, 1) := by decide +kernel
theorem d_TrustDeskModel_next_124 : decode kY_TrustDeskModel_next.2.1 124 = .ok (.dup, 1) := by decide +kernel
theorem d_TrustDeskModel_next_125 : decode kY_TrustDeskModel_next.2.1 125 = .ok (.getfield 192, 3) := by decide +kernel
theorem d_TrustDeskModel_next_128 : decode kY_TrustDeskModel_next.2.1 128 = .ok (.iconst 1, 1) := by decide +kernel
theorem d_TrustDeskModel_next_129 : decode kY_TrustDeskModel_next.2.1 129 = .ok (.iadd, 1) := by decide +kernel
theorem d_TrustDeskModel_next_130 : decode kY_TrustDeskModel_next.2.1 130 = .ok (.putfield 192, 3) := by decide +kernel
theorem d_TrustDeskModel_next_133 : decode kY_TrustDeskModel_next.2.1 133 = .ok (.goto (-24), 3) := by decide +kernel
theorem d_TrustDeskModel_next_71 : decode kY_TrustDeskModel_next.2.1 71 = .ok (.aload_n 0, 1) := by decide +kernel
theorem d_TrustDeskModel_next_72 : decode kY_TrustDeskModel_next.2.1 72 = .ok (.iconst 0, 1) := by decide +kernel
theorem d_TrustDeskModel_next_73 : decode kY_TrustDeskModel_next.2.1 73 = .ok (.putfield 198, 3) := by decide +kernel
theorem d_TrustDeskModel_next_76 : decode kY_TrustDeskModel_next.2.1 76 = .ok (.return_, 1) := by decide +kernel
theorem d_TrustDeskModel_next_11 : decode kY_TrustDeskModel_next.2.1 11 = .ok (.aload_n 0, 1) := by decide +kernel
theorem d_TrustDeskModel_next_12 : decode kY_TrustDeskModel_next.2.1 12 = .ok (.getfield 44, 3) := by decide +kernel
theorem d_TrustDeskModel_next_15 : decode kY_TrustDeskModel_next.2.1 15 = .ok (.aload_n 0, 1) := by decide +kernel
theorem d_TrustDeskModel_next_16 : decode kY_TrustDeskModel_next.2.1 16 = .ok (.getfield 192, 3) := by decide +kernel
theorem d_TrustDeskModel_next_19 : decode kY_TrustDeskModel_next.2.1 19 = .ok (.baload, 1) := by decide +kernel
theorem d_TrustDeskModel_next_20 : decode kY_TrustDeskModel_next.2.1 20 = .ok (.bipush 32, 2) := by decide +kernel
theorem d_TrustDeskModel_next_22 : decode kY_TrustDeskModel_next.2.1 22 = .ok (.if_icmp .eq 17, 3) := by decide +kernel
theorem d_TrustDeskModel_next_39 : decode kY_TrustDeskModel_next.2.1 39 = .ok (.aload_n 0, 1) := by decide +kernel
theorem d_TrustDeskModel_next_40 : decode kY_TrustDeskModel_next.2.1 40 = .ok (.dup, 1) := by decide +kernel
theorem d_TrustDeskModel_next_41 : decode kY_TrustDeskModel_next.2.1 41 = .ok (.getfield 192, 3) := by decide +kernel
theorem d_TrustDeskModel_next_44 : decode kY_TrustDeskModel_next.2.1 44 = .ok (.iconst 1, 1) := by decide +kernel
theorem d_TrustDeskModel_next_45 : decode kY_TrustDeskModel_next.2.1 45 = .ok (.iadd, 1) := by decide +kernel
theorem d_TrustDeskModel_next_46 : decode kY_TrustDeskModel_next.2.1 46 = .ok (.putfield 192, 3) := by decide +kernel
theorem d_TrustDeskModel_next_49 : decode kY_TrustDeskModel_next.2.1 49 = .ok (.goto (-49), 3) := by decide +kernel
theorem d_TrustDeskModel_next_25 : decode kY_TrustDeskModel_next.2.1 25 = .ok (.aload_n 0, 1) := by decide +kernel
theorem d_TrustDeskModel_next_26 : decode kY_TrustDeskModel_next.2.1 26 = .ok (.getfield 44, 3) := by decide +kernel
theorem d_TrustDeskModel_next_29 : decode kY_TrustDeskModel_next.2.1 29 = .ok (.aload_n 0, 1) := by decide +kernel
theorem d_TrustDeskModel_next_30 : decode kY_TrustDeskModel_next.2.1 30 = .ok (.getfield 192, 3) := by decide +kernel
theorem d_TrustDeskModel_next_33 : decode kY_TrustDeskModel_next.2.1 33 = .ok (.baload, 1) := by decide +kernel
theorem d_TrustDeskModel_next_34 : decode kY_TrustDeskModel_next.2.1 34 = .ok (.bipush 10, 2) := by decide +kernel
theorem d_TrustDeskModel_next_36 : decode kY_TrustDeskModel_next.2.1 36 = .ok (.if_icmp .ne 16, 3) := by decide +kernel
def w_TrustDeskModel_next_x : List Nat := [1315, 1316, 1317, 1318]
theorem tc_TrustDeskModel_next_x {g : mj_G} {l : Launch} {d : Nat} {T0 : tm_H} {M0 : mj_M} {n0 x9 : Nat} {o0 : Nat} (h_o0 : T0 o0 = some (0, 13, 0)) (yR : rI M0 o0) (I0 : tm_I tm_FT (tm_in w_TrustDeskModel_next_x) x9 T0 M0 n0 T0 M0 n0) : mj_Met g l kY_TrustDeskModel_next (d + 1) [.ref o0] M0 n0 0 0 (tm_Q tm_FT (tm_in w_TrustDeskModel_next_x) x9 T0 M0 n0 (fun r _ M => r = none ∧ rI M o0 ∧ (rT M o0) ∧ (rv M0 o0 15 ≤ rv M o0 16))) := by
  refine mj_enter (by decide) (Nat.le_of_ble_eq_true rfl) ?_
  have L0_1 : ∀ (k : Nat) (T_1 : tm_H) (M_1 : mj_M) (n_1 : Nat), tm_I tm_FT (tm_in w_TrustDeskModel_next_x) x9 T0 M0 n0 T_1 M_1 n_1 → T_1 o0 = some (0, 13, 0) → rv M0 o0 15 ≤ rv M_1 o0 15 → (rI M_1 o0) → 401 - rv M_1 o0 15 < (k : Int) → mj_V g l kY_TrustDeskModel_next (d + 1) 0 [(0, .ref o0)] [] M_1 n_1 0 0 (tm_Q tm_FT (tm_in w_TrustDeskModel_next_x) x9 T0 M0 n0 (fun r _ M => r = none ∧ rI M o0 ∧ (rT M o0) ∧ (rv M0 o0 15 ≤ rv M o0 16))) := by
    intro k1
    induction k1 with
    | zero =>
      intro T_1 M_1 n_1 I_1 h_q0_1 iv0_1 kKR_1 hk1
      have := kKR_1.1 15 _ _ rfl
      have := kKR_1.1 16 _ _ rfl
      have := kKR_1.1 19 _ _ rfl
      exfalso; omega
    | succ k1 ih1 =>
      intro T_1 M_1 n_1 I_1 h_q0_1 iv0_1 kKR_1 hk1
      refine mv_aload_n d_TrustDeskModel_next_0 rfl rfl ?_
      obtain ⟨v3, q2⟩ := tm_atI I_1 h_q0_1 (k := 15) rfl
      refine tr_getK q2 d_TrustDeskModel_next_1 f_TrustDeskModel_192_13 ?_
      have := kKR_1.f (k := 15) q2 rfl
      have := tm_rv q2
      refine mv_aload_n d_TrustDeskModel_next_4 rfl rfl ?_
      obtain ⟨v5, q4⟩ := tm_atI I_1 h_q0_1 (k := 14) rfl
      refine tr_getK q4 d_TrustDeskModel_next_5 f_TrustDeskModel_189_13 ?_
      have := kKR_1.f (k := 14) q4 rfl
      have := mz_hi v3
      have := mz_hi v5
      refine mv_icmp_geZ (tgt := 52) (a := v3.toInt) (b := v5.toInt) d_TrustDeskModel_next_8 (by decide) rfl rfl (fun b6 => ?_) (fun b6 => ?_)
      · refine mv_aload_n d_TrustDeskModel_next_52 rfl rfl ?_
        refine mv_aload_n d_TrustDeskModel_next_53 rfl rfl ?_
        refine tr_getK (k := 15) q2 d_TrustDeskModel_next_54 f_TrustDeskModel_192_13 ?_
        refine tr_putR (k := 16) I_1 kKR_1 h_q0_1 rfl ⟨_, rfl⟩ (fun _ h => by cases h) rfl (fun lo hi h => by cases h; have := kKR_1.1 15 _ _ rfl; have := kKR_1.1 16 _ _ rfl; have := kKR_1.1 19 _ _ rfl; exact ⟨by show (0 : Int) ≤ v3.toInt; omega, by show v3.toInt ≤ (400 : Int); omega⟩) (Or.inl (by decide)) d_TrustDeskModel_next_57 p_TrustDeskModel_195_13 rfl rfl (fun M7 I8 q9 K10 R11 A12 V13 => ?_)
        have := V13 15 (by decide)
        have := V13 17 (by decide)
        have := V13 18 (by decide)
        have := tm_rv q9
        refine mv_aload_n d_TrustDeskModel_next_60 rfl rfl ?_
        refine tr_getK (k := 15) (K10 _ 13 15 _ rfl q2) d_TrustDeskModel_next_61 f_TrustDeskModel_192_13 ?_
        refine mv_aload_n d_TrustDeskModel_next_64 rfl rfl ?_
        refine tr_getK (k := 14) (K10 _ 13 14 _ rfl q4) d_TrustDeskModel_next_65 f_TrustDeskModel_189_13 ?_
        have := mz_hi v3
        have := mz_hi v5
        refine mv_icmp_ltZ (tgt := 77) (a := v3.toInt) (b := v5.toInt) d_TrustDeskModel_next_68 (by decide) rfl rfl (fun b14 => ?_) (fun b14 => ?_)
        · refine mv_aload_n d_TrustDeskModel_next_77 rfl rfl ?_
          obtain ⟨a16, q15, t_a16⟩ := tm_atR I8 h_q0_1 (k := 13) rfl
          refine tr_getK q15 d_TrustDeskModel_next_78 f_TrustDeskModel_44_13 ?_
          refine mv_aload_n d_TrustDeskModel_next_81 rfl rfl ?_
          refine tr_getK (k := 15) (K10 _ 13 15 _ rfl q2) d_TrustDeskModel_next_82 f_TrustDeskModel_192_13 ?_
          refine tr_baldR (o := o0) (k := 13) I8 q15 t_a16 (by decide) d_TrustDeskModel_next_85 (vp_in_iff.mpr (by have := R11.1 15 _ _ rfl; have := R11.1 16 _ _ rfl; have := R11.1 19 _ _ rfl; omega)) (fun v17 e18 => ?_)
          have := R11.a (k := 13) rfl (v3 : Int32).toNatClampNeg
          refine mv_istore_n (lv' := [(1, .int v17), (0, .ref o0)]) d_TrustDeskModel_next_86 rfl (by decide) rfl ?_
          refine mv_aload_n d_TrustDeskModel_next_87 rfl rfl ?_
          refine mv_dup d_TrustDeskModel_next_88 rfl ?_
          refine tr_getK (k := 15) (K10 _ 13 15 _ rfl q2) d_TrustDeskModel_next_89 f_TrustDeskModel_192_13 ?_
          refine mv_iconst (v := 1) d_TrustDeskModel_next_92 (by decide) ?_
          refine mv_iadd d_TrustDeskModel_next_93 ?_
          have b19 : (v3 + 1 : Int32).toInt = (v3.toInt + 1) := mz_add2 rfl (by decide) (by have := R11.1 15 _ _ rfl; have := R11.1 16 _ _ rfl; have := R11.1 19 _ _ rfl; omega) (by have := R11.1 15 _ _ rfl; have := R11.1 16 _ _ rfl; have := R11.1 19 _ _ rfl; omega)
          refine tr_putR (k := 15) I8 R11 h_q0_1 rfl ⟨_, rfl⟩ (fun _ h => by cases h) rfl (fun lo hi h => by cases h; have := R11.1 15 _ _ rfl; have := R11.1 16 _ _ rfl; have := R11.1 19 _ _ rfl; exact ⟨by show (0 : Int) ≤ (v3 + 1).toInt; omega, by show (v3 + 1).toInt ≤ (400 : Int); omega⟩) (Or.inl (by decide)) d_TrustDeskModel_next_94 p_TrustDeskModel_192_13 rfl rfl (fun M20 I21 q22 K23 R24 A25 V26 => ?_)
          have := V26 16 (by decide)
          have := V26 17 (by decide)
          have := V26 18 (by decide)
          have := tm_rv q22
          refine mv_aload_n d_TrustDeskModel_next_97 rfl rfl ?_
          refine mv_iload_n d_TrustDeskModel_next_98 rfl rfl ?_
          refine tr_putR (k := 18) I21 R24 h_q0_1 rfl ⟨_, rfl⟩ (fun _ h => by cases h) rfl (fun lo hi h => by cases h; have := R24.1 15 _ _ rfl; have := R24.1 16 _ _ rfl; have := R24.1 19 _ _ rfl; exact ⟨by show ((-128) : Int) ≤ v17.toInt; omega, by show v17.toInt ≤ (9999 : Int); omega⟩) (Or.inl (by decide)) d_TrustDeskModel_next_99 p_TrustDeskModel_201_13 rfl rfl (fun M27 I28 q29 K30 R31 A32 V33 => ?_)
          have := V33 15 (by decide)
          have := V33 16 (by decide)
          have := V33 17 (by decide)
          have := tm_rv q29
          refine mv_iload_n d_TrustDeskModel_next_102 rfl rfl ?_
          refine mv_callS (kc1 := 0) (ks1 := 0) (kc' := 0) (ks' := 0) (As := [.int v17]) (st9 := [.int v17]) d_TrustDeskModel_next_103 lS_TrustDeskModel_204 (mj_enter (by decide) (Nat.le_of_ble_eq_true rfl) ?_) rfl (Nat.le_of_ble_eq_true rfl) (Nat.le_of_ble_eq_true rfl) (Nat.le_of_ble_eq_true rfl) (hst := rfl) (fun _ _ _ h => h)
          refine mv_iload_n d_TrustDeskModel_isSmall_0 rfl rfl ?_
          refine mv_bipush (v := 97) d_TrustDeskModel_isSmall_1 (by decide) ?_
          have := mz_hi v17
          refine mv_icmp_ltZ (tgt := 16) (a := v17.toInt) (b := 97) d_TrustDeskModel_isSmall_3 (by decide) rfl (by decide) (fun b34 => ?_) (fun b34 => ?_)
          · refine mv_iconst (v := 0) d_TrustDeskModel_isSmall_16 (by decide) ?_
            refine mv_iret d_TrustDeskModel_isSmall_17 rfl (by decide) ?_
            refine mv_if_eq_t (tgt := 144) d_TrustDeskModel_next_106 (by decide) (by decide) ?_
            refine mv_iload_n d_TrustDeskModel_next_144 rfl rfl ?_
            refine mv_callS (kc1 := 0) (ks1 := 0) (kc' := 0) (ks' := 0) (As := [.int v17]) (st9 := [.int v17]) d_TrustDeskModel_next_145 lS_TrustDeskModel_211 (mj_enter (by decide) (Nat.le_of_ble_eq_true rfl) ?_) rfl (Nat.le_of_ble_eq_true rfl) (Nat.le_of_ble_eq_true rfl) (Nat.le_of_ble_eq_true rfl) (hst := rfl) (fun _ _ _ h => h)
            refine mv_iload_n d_TrustDeskModel_isDigit_0 rfl rfl ?_
            refine mv_bipush (v := 48) d_TrustDeskModel_isDigit_1 (by decide) ?_
            have := mz_hi v17
            refine mv_icmp_ltZ (tgt := 16) (a := v17.toInt) (b := 48) d_TrustDeskModel_isDigit_3 (by decide) rfl (by decide) (fun b35 => ?_) (fun b35 => ?_)
            · refine mv_iconst (v := 0) d_TrustDeskModel_isDigit_16 (by decide) ?_
              refine mv_iret d_TrustDeskModel_isDigit_17 rfl (by decide) ?_
              refine mv_if_eq_t (tgt := 247) d_TrustDeskModel_next_148 (by decide) (by decide) ?_
              refine mv_aload_n d_TrustDeskModel_next_247 rfl rfl ?_
              refine mv_iconst (v := 4) d_TrustDeskModel_next_248 (by decide) ?_
              refine tr_putR (k := 17) I28 R31 h_q0_1 rfl ⟨_, rfl⟩ (fun _ h => by cases h) rfl (fun lo hi h => by cases h) (Or.inl (by decide)) d_TrustDeskModel_next_249 p_TrustDeskModel_198_13 rfl rfl (fun M36 I37 q38 K39 R40 A41 V42 => ?_)
              have := V42 15 (by decide)
              have := V42 16 (by decide)
              have := V42 18 (by decide)
              have : rv M36 o0 17 = 4 := tm_rv q38
              exact mv_vret d_TrustDeskModel_next_252 rfl ⟨_, I37, rfl, R40, (rT_of (by omega) (by omega) (by omega)), (by have := R40.1 15 _ _ rfl; have := R40.1 16 _ _ rfl; have := R40.1 19 _ _ rfl; omega)⟩
            · refine mv_iload_n d_TrustDeskModel_isDigit_6 rfl rfl ?_
              refine mv_bipush (v := 57) d_TrustDeskModel_isDigit_7 (by decide) ?_
              have := mz_hi v17
              refine mv_icmp_gtZ (tgt := 16) (a := v17.toInt) (b := 57) d_TrustDeskModel_isDigit_9 (by decide) rfl (by decide) (fun b43 => ?_) (fun b43 => ?_)
              · refine mv_iconst (v := 0) d_TrustDeskModel_isDigit_16 (by decide) ?_
                refine mv_iret d_TrustDeskModel_isDigit_17 rfl (by decide) ?_
                refine mv_if_eq_t (tgt := 247) d_TrustDeskModel_next_148 (by decide) (by decide) ?_
                refine mv_aload_n d_TrustDeskModel_next_247 rfl rfl ?_
                refine mv_iconst (v := 4) d_TrustDeskModel_next_248 (by decide) ?_
                refine tr_putR (k := 17) I28 R31 h_q0_1 rfl ⟨_, rfl⟩ (fun _ h => by cases h) rfl (fun lo hi h => by cases h) (Or.inl (by decide)) d_TrustDeskModel_next_249 p_TrustDeskModel_198_13 rfl rfl (fun M44 I45 q46 K47 R48 A49 V50 => ?_)
                have := V50 15 (by decide)
                have := V50 16 (by decide)
                have := V50 18 (by decide)
                have : rv M44 o0 17 = 4 := tm_rv q46
                exact mv_vret d_TrustDeskModel_next_252 rfl ⟨_, I45, rfl, R48, (rT_of (by omega) (by omega) (by omega)), (by have := R48.1 15 _ _ rfl; have := R48.1 16 _ _ rfl; have := R48.1 19 _ _ rfl; omega)⟩
              · refine mv_iconst (v := 1) d_TrustDeskModel_isDigit_12 (by decide) ?_
                refine mv_goto (tgt := 17) d_TrustDeskModel_isDigit_13 (by decide) ?_
                refine mv_iret d_TrustDeskModel_isDigit_17 rfl (by decide) ?_
                refine mv_if_eq_f (tgt := 247) d_TrustDeskModel_next_148 (by decide) (by decide) ?_
                refine mv_aload_n d_TrustDeskModel_next_151 rfl rfl ?_
                refine mv_iload_n d_TrustDeskModel_next_152 rfl rfl ?_
                refine mv_bipush (v := 48) d_TrustDeskModel_next_153 (by decide) ?_
                refine mv_isub d_TrustDeskModel_next_155 ?_
                have b51 : (v17 - 48 : Int32).toInt = (v17.toInt - 48) := mz_sub2 rfl (by decide) (by have := R31.1 15 _ _ rfl; have := R31.1 16 _ _ rfl; have := R31.1 19 _ _ rfl; omega) (by have := R31.1 15 _ _ rfl; have := R31.1 16 _ _ rfl; have := R31.1 19 _ _ rfl; omega)
                refine tr_putR (k := 18) I28 R31 h_q0_1 rfl ⟨_, rfl⟩ (fun _ h => by cases h) rfl (fun lo hi h => by cases h; have := R31.1 15 _ _ rfl; have := R31.1 16 _ _ rfl; have := R31.1 19 _ _ rfl; exact ⟨by show ((-128) : Int) ≤ (v17 - 48).toInt; omega, by show (v17 - 48).toInt ≤ (9999 : Int); omega⟩) (Or.inl (by decide)) d_TrustDeskModel_next_156 p_TrustDeskModel_201_13 rfl rfl (fun M52 I53 q54 K55 R56 A57 V58 => ?_)
                have := V58 15 (by decide)
                have := V58 16 (by decide)
                have := V58 17 (by decide)
                have := tm_rv q54
                have L159_59 : ∀ (k : Nat) (T_59 : tm_H) (M_59 : mj_M) (n_59 : Nat), tm_I tm_FT (tm_in w_TrustDeskModel_next_x) x9 T0 M0 n0 T_59 M_59 n_59 → T_59 o0 = some (0, 13, 0) → rv M0 o0 15 ≤ rv M_59 o0 16 → rv M_59 o0 16 < rv M_59 o0 15 → 0 ≤ rv M_59 o0 18 → (rv M_59 o0 15 - rv M_59 o0 16 ≤ 1 → rv M_59 o0 18 ≤ 9) → (rv M_59 o0 15 - rv M_59 o0 16 ≤ 2 → rv M_59 o0 18 ≤ 99) → (rv M_59 o0 15 - rv M_59 o0 16 ≤ 3 → rv M_59 o0 18 ≤ 999) → (rI M_59 o0) → 401 - rv M_59 o0 15 < (k : Int) → mj_V g l kY_TrustDeskModel_next (d + 1) 159 [(1, .int v17), (0, .ref o0)] [] M_59 n_59 0 0 (tm_Q tm_FT (tm_in w_TrustDeskModel_next_x) x9 T0 M0 n0 (fun r _ M => r = none ∧ rI M o0 ∧ (rT M o0) ∧ (rv M0 o0 15 ≤ rv M o0 16))) := by
                  intro k59
                  induction k59 with
                  | zero =>
                    intro T_59 M_59 n_59 I_59 h_q0_59 iv0_59 iv1_59 iv2_59 iv3_59 iv4_59 iv5_59 kKR_59 hk59
                    have := kKR_59.1 15 _ _ rfl
                    have := kKR_59.1 16 _ _ rfl
                    have := kKR_59.1 19 _ _ rfl
                    exfalso; omega
                  | succ k59 ih59 =>
                    intro T_59 M_59 n_59 I_59 h_q0_59 iv0_59 iv1_59 iv2_59 iv3_59 iv4_59 iv5_59 kKR_59 hk59
                    refine mv_aload_n d_TrustDeskModel_next_159 rfl rfl ?_
                    refine mv_aload_n d_TrustDeskModel_next_160 rfl rfl ?_
                    obtain ⟨v61, q60⟩ := tm_atI I_59 h_q0_59 (k := 15) rfl
                    refine tr_getK q60 d_TrustDeskModel_next_161 f_TrustDeskModel_192_13 ?_
                    have := kKR_59.f (k := 15) q60 rfl
                    have := tm_rv q60
                    obtain ⟨_, b62, -⟩ := I_59.1 _ _ h_q0_59
                    refine mv_callV (kc1 := 0) (ks1 := 0) (kc' := 0) (ks' := 0) (As := [.int v61]) (st9 := [.int v61, .ref o0]) d_TrustDeskModel_next_164 lV_TrustDeskModel_207 b62 rfl (mj_enter (by decide) (Nat.le_of_ble_eq_true rfl) ?_) rfl (Nat.le_of_ble_eq_true rfl) (Nat.le_of_ble_eq_true rfl) (Nat.le_of_ble_eq_true rfl) (hst := rfl) (fun _ _ _ h => h)
                    refine mv_iload_n d_TrustDeskModel_see_0 rfl rfl ?_
                    refine mv_aload_n d_TrustDeskModel_see_1 rfl rfl ?_
                    obtain ⟨v64, q63⟩ := tm_atI I_59 h_q0_59 (k := 14) rfl
                    refine tr_getK q63 d_TrustDeskModel_see_2 f_TrustDeskModel_189_13 ?_
                    have := kKR_59.f (k := 14) q63 rfl
                    have := mz_hi v61
                    have := mz_hi v64
                    refine mv_icmp_geZ (tgt := 17) (a := v61.toInt) (b := v64.toInt) d_TrustDeskModel_see_5 (by decide) rfl rfl (fun b65 => ?_) (fun b65 => ?_)
                    · refine mv_iconst (v := 0) d_TrustDeskModel_see_17 (by decide) ?_
                      refine mv_iret d_TrustDeskModel_see_18 rfl (by first | rfl | decide) ?_
                      refine mv_callS (kc1 := 0) (ks1 := 0) (kc' := 0) (ks' := 0) (As := [.int 0]) (st9 := [.int 0]) d_TrustDeskModel_next_167 lS_TrustDeskModel_211 (mj_enter (by decide) (Nat.le_of_ble_eq_true rfl) ?_) rfl (Nat.le_of_ble_eq_true rfl) (Nat.le_of_ble_eq_true rfl) (Nat.le_of_ble_eq_true rfl) (hst := rfl) (fun _ _ _ h => h)
                      refine mv_iload_n d_TrustDeskModel_isDigit_0 rfl rfl ?_
                      refine mv_bipush (v := 48) d_TrustDeskModel_isDigit_1 (by decide) ?_
                      refine mv_icmp_lt_t (tgt := 16) d_TrustDeskModel_isDigit_3 (by decide) (by decide) ?_
                      refine mv_iconst (v := 0) d_TrustDeskModel_isDigit_16 (by decide) ?_
                      refine mv_iret d_TrustDeskModel_isDigit_17 rfl (by decide) ?_
                      refine mv_if_eq_t (tgt := 222) d_TrustDeskModel_next_170 (by decide) (by decide) ?_
                      refine mv_aload_n d_TrustDeskModel_next_222 rfl rfl ?_
                      refine mv_aload_n d_TrustDeskModel_next_223 rfl rfl ?_
                      refine tr_getK (k := 15) q60 d_TrustDeskModel_next_224 f_TrustDeskModel_192_13 ?_
                      refine mv_aload_n d_TrustDeskModel_next_227 rfl rfl ?_
                      obtain ⟨v67, q66⟩ := tm_atI I_59 h_q0_59 (k := 16) rfl
                      refine tr_getK q66 d_TrustDeskModel_next_228 f_TrustDeskModel_195_13 ?_
                      have := kKR_59.f (k := 16) q66 rfl
                      have := tm_rv q66
                      refine mv_isub d_TrustDeskModel_next_231 ?_
                      refine mv_iconst (v := 4) d_TrustDeskModel_next_232 (by decide) ?_
                      have b68 : (v61 - v67 : Int32).toInt = (v61.toInt - v67.toInt) := mz_sub2 rfl rfl (by have := kKR_59.1 15 _ _ rfl; have := kKR_59.1 16 _ _ rfl; have := kKR_59.1 19 _ _ rfl; omega) (by have := kKR_59.1 15 _ _ rfl; have := kKR_59.1 16 _ _ rfl; have := kKR_59.1 19 _ _ rfl; omega)
                      have := mz_hi (v61 - v67)
                      refine mv_icmp_leZ (tgt := 240) (a := (v61 - v67).toInt) (b := 4) d_TrustDeskModel_next_233 (by decide) rfl (by decide) (fun b69 => ?_) (fun b69 => ?_)
                      · refine mv_iconst (v := 2) d_TrustDeskModel_next_240 (by decide) ?_
                        refine tr_putR (k := 17) I_59 kKR_59 h_q0_59 rfl ⟨_, rfl⟩ (fun _ h => by cases h) rfl (fun lo hi h => by cases h) (Or.inl (by decide)) d_TrustDeskModel_next_241 p_TrustDeskModel_198_13 rfl rfl (fun M70 I71 q72 K73 R74 A75 V76 => ?_)
                        have := V76 15 (by decide)
                        have := V76 16 (by decide)
                        have := V76 18 (by decide)
                        have : rv M70 o0 17 = 2 := tm_rv q72
                        refine mv_goto (tgt := 252) d_TrustDeskModel_next_244 (by decide) ?_
                        exact mv_vret d_TrustDeskModel_next_252 rfl ⟨_, I71, rfl, R74, (rT_of (by omega) (by omega) (by omega)), (by have := R74.1 15 _ _ rfl; have := R74.1 16 _ _ rfl; have := R74.1 19 _ _ rfl; omega)⟩
                      · refine mv_iconst (v := 1) d_TrustDeskModel_next_236 (by decide) ?_
                        refine mv_goto (tgt := 241) d_TrustDeskModel_next_237 (by decide) ?_
                        refine tr_putR (k := 17) I_59 kKR_59 h_q0_59 rfl ⟨_, rfl⟩ (fun _ h => by cases h) rfl (fun lo hi h => by cases h) (Or.inl (by decide)) d_TrustDeskModel_next_241 p_TrustDeskModel_198_13 rfl rfl (fun M77 I78 q79 K80 R81 A82 V83 => ?_)
                        have := V83 15 (by decide)
                        have := V83 16 (by decide)
                        have := V83 18 (by decide)
                        have : rv M77 o0 17 = 1 := tm_rv q79
                        refine mv_goto (tgt := 252) d_TrustDeskModel_next_244 (by decide) ?_
                        exact mv_vret d_TrustDeskModel_next_252 rfl ⟨_, I78, rfl, R81, (rT_of (by omega) (by omega) (by omega)), (by have := R81.1 15 _ _ rfl; have := R81.1 16 _ _ rfl; have := R81.1 19 _ _ rfl; omega)⟩
                    · refine mv_aload_n d_TrustDeskModel_see_8 rfl rfl ?_
                      obtain ⟨a85, q84, t_a85⟩ := tm_atR I_59 h_q0_59 (k := 13) rfl
                      refine tr_getK q84 d_TrustDeskModel_see_9 f_TrustDeskModel_44_13 ?_
                      refine mv_iload_n d_TrustDeskModel_see_12 rfl rfl ?_
                      refine tr_baldR (o := o0) (k := 13) I_59 q84 t_a85 (by decide) d_TrustDeskModel_see_13 (vp_in_iff.mpr (by have := kKR_59.1 15 _ _ rfl; have := kKR_59.1 16 _ _ rfl; have := kKR_59.1 19 _ _ rfl; omega)) (fun v86 e87 => ?_)
                      have := kKR_59.a (k := 13) rfl (v61 : Int32).toNatClampNeg
                      refine mv_goto (tgt := 18) d_TrustDeskModel_see_14 (by decide) ?_
                      refine mv_iret d_TrustDeskModel_see_18 rfl (by first | rfl | decide) ?_
                      refine mv_callS (kc1 := 0) (ks1 := 0) (kc' := 0) (ks' := 0) (As := [.int v86]) (st9 := [.int v86]) d_TrustDeskModel_next_167 lS_TrustDeskModel_211 (mj_enter (by decide) (Nat.le_of_ble_eq_true rfl) ?_) rfl (Nat.le_of_ble_eq_true rfl) (Nat.le_of_ble_eq_true rfl) (Nat.le_of_ble_eq_true rfl) (hst := rfl) (fun _ _ _ h => h)
                      refine mv_iload_n d_TrustDeskModel_isDigit_0 rfl rfl ?_
                      refine mv_bipush (v := 48) d_TrustDeskModel_isDigit_1 (by decide) ?_
                      have := mz_hi v86
                      refine mv_icmp_ltZ (tgt := 16) (a := v86.toInt) (b := 48) d_TrustDeskModel_isDigit_3 (by decide) rfl (by decide) (fun b88 => ?_) (fun b88 => ?_)
                      · refine mv_iconst (v := 0) d_TrustDeskModel_isDigit_16 (by decide) ?_
                        refine mv_iret d_TrustDeskModel_isDigit_17 rfl (by decide) ?_
                        refine mv_if_eq_t (tgt := 222) d_TrustDeskModel_next_170 (by decide) (by decide) ?_
                        refine mv_aload_n d_TrustDeskModel_next_222 rfl rfl ?_
                        refine mv_aload_n d_TrustDeskModel_next_223 rfl rfl ?_
                        refine tr_getK (k := 15) q60 d_TrustDeskModel_next_224 f_TrustDeskModel_192_13 ?_
                        refine mv_aload_n d_TrustDeskModel_next_227 rfl rfl ?_
                        obtain ⟨v90, q89⟩ := tm_atI I_59 h_q0_59 (k := 16) rfl
                        refine tr_getK q89 d_TrustDeskModel_next_228 f_TrustDeskModel_195_13 ?_
                        have := kKR_59.f (k := 16) q89 rfl
                        have := tm_rv q89
                        refine mv_isub d_TrustDeskModel_next_231 ?_
                        refine mv_iconst (v := 4) d_TrustDeskModel_next_232 (by decide) ?_
                        have b91 : (v61 - v90 : Int32).toInt = (v61.toInt - v90.toInt) := mz_sub2 rfl rfl (by have := kKR_59.1 15 _ _ rfl; have := kKR_59.1 16 _ _ rfl; have := kKR_59.1 19 _ _ rfl; omega) (by have := kKR_59.1 15 _ _ rfl; have := kKR_59.1 16 _ _ rfl; have := kKR_59.1 19 _ _ rfl; omega)
                        have := mz_hi (v61 - v90)
                        refine mv_icmp_leZ (tgt := 240) (a := (v61 - v90).toInt) (b := 4) d_TrustDeskModel_next_233 (by decide) rfl (by decide) (fun b92 => ?_) (fun b92 => ?_)
                        · refine mv_iconst (v := 2) d_TrustDeskModel_next_240 (by decide) ?_
                          refine tr_putR (k := 17) I_59 kKR_59 h_q0_59 rfl ⟨_, rfl⟩ (fun _ h => by cases h) rfl (fun lo hi h => by cases h) (Or.inl (by decide)) d_TrustDeskModel_next_241 p_TrustDeskModel_198_13 rfl rfl (fun M93 I94 q95 K96 R97 A98 V99 => ?_)
                          have := V99 15 (by decide)
                          have := V99 16 (by decide)
                          have := V99 18 (by decide)
                          have : rv M93 o0 17 = 2 := tm_rv q95
                          refine mv_goto (tgt := 252) d_TrustDeskModel_next_244 (by decide) ?_
                          exact mv_vret d_TrustDeskModel_next_252 rfl ⟨_, I94, rfl, R97, (rT_of (by omega) (by omega) (by omega)), (by have := R97.1 15 _ _ rfl; have := R97.1 16 _ _ rfl; have := R97.1 19 _ _ rfl; omega)⟩
                        · refine mv_iconst (v := 1) d_TrustDeskModel_next_236 (by decide) ?_
                          refine mv_goto (tgt := 241) d_TrustDeskModel_next_237 (by decide) ?_
                          refine tr_putR (k := 17) I_59 kKR_59 h_q0_59 rfl ⟨_, rfl⟩ (fun _ h => by cases h) rfl (fun lo hi h => by cases h) (Or.inl (by decide)) d_TrustDeskModel_next_241 p_TrustDeskModel_198_13 rfl rfl (fun M100 I101 q102 K103 R104 A105 V106 => ?_)
                          have := V106 15 (by decide)
                          have := V106 16 (by decide)
                          have := V106 18 (by decide)
                          have : rv M100 o0 17 = 1 := tm_rv q102
                          refine mv_goto (tgt := 252) d_TrustDeskModel_next_244 (by decide) ?_
                          exact mv_vret d_TrustDeskModel_next_252 rfl ⟨_, I101, rfl, R104, (rT_of (by omega) (by omega) (by omega)), (by have := R104.1 15 _ _ rfl; have := R104.1 16 _ _ rfl; have := R104.1 19 _ _ rfl; omega)⟩
                      · refine mv_iload_n d_TrustDeskModel_isDigit_6 rfl rfl ?_
                        refine mv_bipush (v := 57) d_TrustDeskModel_isDigit_7 (by decide) ?_
                        have := mz_hi v86
                        refine mv_icmp_gtZ (tgt := 16) (a := v86.toInt) (b := 57) d_TrustDeskModel_isDigit_9 (by decide) rfl (by decide) (fun b107 => ?_) (fun b107 => ?_)
                        · refine mv_iconst (v := 0) d_TrustDeskModel_isDigit_16 (by decide) ?_
                          refine mv_iret d_TrustDeskModel_isDigit_17 rfl (by decide) ?_
                          refine mv_if_eq_t (tgt := 222) d_TrustDeskModel_next_170 (by decide) (by decide) ?_
                          refine mv_aload_n d_TrustDeskModel_next_222 rfl rfl ?_
                          refine mv_aload_n d_TrustDeskModel_next_223 rfl rfl ?_
                          refine tr_getK (k := 15) q60 d_TrustDeskModel_next_224 f_TrustDeskModel_192_13 ?_
                          refine mv_aload_n d_TrustDeskModel_next_227 rfl rfl ?_
                          obtain ⟨v109, q108⟩ := tm_atI I_59 h_q0_59 (k := 16) rfl
                          refine tr_getK q108 d_TrustDeskModel_next_228 f_TrustDeskModel_195_13 ?_
                          have := kKR_59.f (k := 16) q108 rfl
                          have := tm_rv q108
                          refine mv_isub d_TrustDeskModel_next_231 ?_
                          refine mv_iconst (v := 4) d_TrustDeskModel_next_232 (by decide) ?_
                          have b110 : (v61 - v109 : Int32).toInt = (v61.toInt - v109.toInt) := mz_sub2 rfl rfl (by have := kKR_59.1 15 _ _ rfl; have := kKR_59.1 16 _ _ rfl; have := kKR_59.1 19 _ _ rfl; omega) (by have := kKR_59.1 15 _ _ rfl; have := kKR_59.1 16 _ _ rfl; have := kKR_59.1 19 _ _ rfl; omega)
                          have := mz_hi (v61 - v109)
                          refine mv_icmp_leZ (tgt := 240) (a := (v61 - v109).toInt) (b := 4) d_TrustDeskModel_next_233 (by decide) rfl (by decide) (fun b111 => ?_) (fun b111 => ?_)
                          · refine mv_iconst (v := 2) d_TrustDeskModel_next_240 (by decide) ?_
                            refine tr_putR (k := 17) I_59 kKR_59 h_q0_59 rfl ⟨_, rfl⟩ (fun _ h => by cases h) rfl (fun lo hi h => by cases h) (Or.inl (by decide)) d_TrustDeskModel_next_241 p_TrustDeskModel_198_13 rfl rfl (fun M112 I113 q114 K115 R116 A117 V118 => ?_)
                            have := V118 15 (by decide)
                            have := V118 16 (by decide)
                            have := V118 18 (by decide)
                            have : rv M112 o0 17 = 2 := tm_rv q114
                            refine mv_goto (tgt := 252) d_TrustDeskModel_next_244 (by decide) ?_
                            exact mv_vret d_TrustDeskModel_next_252 rfl ⟨_, I113, rfl, R116, (rT_of (by omega) (by omega) (by omega)), (by have := R116.1 15 _ _ rfl; have := R116.1 16 _ _ rfl; have := R116.1 19 _ _ rfl; omega)⟩
                          · refine mv_iconst (v := 1) d_TrustDeskModel_next_236 (by decide) ?_
                            refine mv_goto (tgt := 241) d_TrustDeskModel_next_237 (by decide) ?_
                            refine tr_putR (k := 17) I_59 kKR_59 h_q0_59 rfl ⟨_, rfl⟩ (fun _ h => by cases h) rfl (fun lo hi h => by cases h) (Or.inl (by decide)) d_TrustDeskModel_next_241 p_TrustDeskModel_198_13 rfl rfl (fun M119 I120 q121 K122 R123 A124 V125 => ?_)
                            have := V125 15 (by decide)
                            have := V125 16 (by decide)
                            have := V125 18 (by decide)
                            have : rv M119 o0 17 = 1 := tm_rv q121
                            refine mv_goto (tgt := 252) d_TrustDeskModel_next_244 (by decide) ?_
                            exact mv_vret d_TrustDeskModel_next_252 rfl ⟨_, I120, rfl, R123, (rT_of (by omega) (by omega) (by omega)), (by have := R123.1 15 _ _ rfl; have := R123.1 16 _ _ rfl; have := R123.1 19 _ _ rfl; omega)⟩
                        · refine mv_iconst (v := 1) d_TrustDeskModel_isDigit_12 (by decide) ?_
                          refine mv_goto (tgt := 17) d_TrustDeskModel_isDigit_13 (by decide) ?_
                          refine mv_iret d_TrustDeskModel_isDigit_17 rfl (by decide) ?_
                          refine mv_if_eq_f (tgt := 222) d_TrustDeskModel_next_170 (by decide) (by decide) ?_
                          refine mv_aload_n d_TrustDeskModel_next_173 rfl rfl ?_
                          refine tr_getK (k := 15) q60 d_TrustDeskModel_next_174 f_TrustDeskModel_192_13 ?_
                          refine mv_aload_n d_TrustDeskModel_next_177 rfl rfl ?_
                          obtain ⟨v127, q126⟩ := tm_atI I_59 h_q0_59 (k := 16) rfl
                          refine tr_getK q126 d_TrustDeskModel_next_178 f_TrustDeskModel_195_13 ?_
                          have := kKR_59.f (k := 16) q126 rfl
                          have := tm_rv q126
                          refine mv_isub d_TrustDeskModel_next_181 ?_
                          refine mv_iconst (v := 4) d_TrustDeskModel_next_182 (by decide) ?_
                          have b128 : (v61 - v127 : Int32).toInt = (v61.toInt - v127.toInt) := mz_sub2 rfl rfl (by have := kKR_59.1 15 _ _ rfl; have := kKR_59.1 16 _ _ rfl; have := kKR_59.1 19 _ _ rfl; omega) (by have := kKR_59.1 15 _ _ rfl; have := kKR_59.1 16 _ _ rfl; have := kKR_59.1 19 _ _ rfl; omega)
                          have := mz_hi (v61 - v127)
                          refine mv_icmp_geZ (tgt := 209) (a := (v61 - v127).toInt) (b := 4) d_TrustDeskModel_next_183 (by decide) rfl (by decide) (fun b129 => ?_) (fun b129 => ?_)
                          · refine mv_aload_n d_TrustDeskModel_next_209 rfl rfl ?_
                            refine mv_dup d_TrustDeskModel_next_210 rfl ?_
                            refine tr_getK (k := 15) q60 d_TrustDeskModel_next_211 f_TrustDeskModel_192_13 ?_
                            refine mv_iconst (v := 1) d_TrustDeskModel_next_214 (by decide) ?_
                            refine mv_iadd d_TrustDeskModel_next_215 ?_
                            have b130 : (v61 + 1 : Int32).toInt = (v61.toInt + 1) := mz_add2 rfl (by decide) (by have := kKR_59.1 15 _ _ rfl; have := kKR_59.1 16 _ _ rfl; have := kKR_59.1 19 _ _ rfl; omega) (by have := kKR_59.1 15 _ _ rfl; have := kKR_59.1 16 _ _ rfl; have := kKR_59.1 19 _ _ rfl; omega)
                            refine tr_putR (k := 15) I_59 kKR_59 h_q0_59 rfl ⟨_, rfl⟩ (fun _ h => by cases h) rfl (fun lo hi h => by cases h; have := kKR_59.1 15 _ _ rfl; have := kKR_59.1 16 _ _ rfl; have := kKR_59.1 19 _ _ rfl; exact ⟨by show (0 : Int) ≤ (v61 + 1).toInt; omega, by show (v61 + 1).toInt ≤ (400 : Int); omega⟩) (Or.inl (by decide)) d_TrustDeskModel_next_216 p_TrustDeskModel_192_13 rfl rfl (fun M131 I132 q133 K134 R135 A136 V137 => ?_)
                            have := V137 16 (by decide)
                            have := V137 17 (by decide)
                            have := V137 18 (by decide)
                            have := tm_rv q133
                            refine mv_goto (tgt := 159) d_TrustDeskModel_next_219 (by decide) ?_
                            exact (ih59 T_59 M131 n_59 I132 h_q0_59 (by have := R135.1 15 _ _ rfl; have := R135.1 16 _ _ rfl; have := R135.1 19 _ _ rfl; first | omega | decide) (by have := R135.1 15 _ _ rfl; have := R135.1 16 _ _ rfl; have := R135.1 19 _ _ rfl; first | omega | decide) (by have := R135.1 15 _ _ rfl; have := R135.1 16 _ _ rfl; have := R135.1 19 _ _ rfl; first | omega | decide) (by have := R135.1 15 _ _ rfl; have := R135.1 16 _ _ rfl; have := R135.1 19 _ _ rfl; first | omega | decide) (by have := R135.1 15 _ _ rfl; have := R135.1 16 _ _ rfl; have := R135.1 19 _ _ rfl; first | omega | decide) (by have := R135.1 15 _ _ rfl; have := R135.1 16 _ _ rfl; have := R135.1 19 _ _ rfl; first | omega | decide) R135 (by have := R135.1 15 _ _ rfl; have := R135.1 16 _ _ rfl; have := R135.1 19 _ _ rfl; omega))
                          · refine mv_aload_n d_TrustDeskModel_next_186 rfl rfl ?_
                            refine mv_bipush (v := 10) d_TrustDeskModel_next_187 (by decide) ?_
                            refine mv_aload_n d_TrustDeskModel_next_189 rfl rfl ?_
                            obtain ⟨v139, q138⟩ := tm_atI I_59 h_q0_59 (k := 18) rfl
                            refine tr_getK q138 d_TrustDeskModel_next_190 f_TrustDeskModel_201_13 ?_
                            have := kKR_59.f (k := 18) q138 rfl
                            have := tm_rv q138
                            refine mv_imul d_TrustDeskModel_next_193 ?_
                            refine mv_aload_n d_TrustDeskModel_next_194 rfl rfl ?_
                            refine mv_aload_n d_TrustDeskModel_next_195 rfl rfl ?_
                            refine tr_getK (k := 15) q60 d_TrustDeskModel_next_196 f_TrustDeskModel_192_13 ?_
                            obtain ⟨_, b140, -⟩ := I_59.1 _ _ h_q0_59
                            refine mv_callV (kc1 := 0) (ks1 := 0) (kc' := 0) (ks' := 0) (As := [.int v61]) (st9 := [.int v61, .ref o0, .int (10 * v139), .ref o0]) d_TrustDeskModel_next_199 lV_TrustDeskModel_207 b140 rfl (mj_enter (by decide) (Nat.le_of_ble_eq_true rfl) ?_) rfl (Nat.le_of_ble_eq_true rfl) (Nat.le_of_ble_eq_true rfl) (Nat.le_of_ble_eq_true rfl) (hst := rfl) (fun _ _ _ h => h)
                            refine mv_iload_n d_TrustDeskModel_see_0 rfl rfl ?_
                            refine mv_aload_n d_TrustDeskModel_see_1 rfl rfl ?_
                            refine tr_getK (k := 14) q63 d_TrustDeskModel_see_2 f_TrustDeskModel_189_13 ?_
                            have := mz_hi v61
                            have := mz_hi v64
                            refine mv_icmp_geZ (tgt := 17) (a := v61.toInt) (b := v64.toInt) d_TrustDeskModel_see_5 (by decide) rfl rfl (fun b141 => ?_) (fun b141 => ?_)
                            · refine mv_iconst (v := 0) d_TrustDeskModel_see_17 (by decide) ?_
                              refine mv_iret d_TrustDeskModel_see_18 rfl (by first | rfl | decide) ?_
                              refine mv_iadd d_TrustDeskModel_next_202 ?_
                              refine mv_bipush (v := 48) d_TrustDeskModel_next_203 (by decide) ?_
                              refine mv_isub d_TrustDeskModel_next_205 ?_
                              have b142 : (10 * v139 : Int32).toInt = (10 * v139.toInt) := mz_mul2 (by decide) rfl (by have := kKR_59.1 15 _ _ rfl; have := kKR_59.1 16 _ _ rfl; have := kKR_59.1 19 _ _ rfl; omega) (by have := kKR_59.1 15 _ _ rfl; have := kKR_59.1 16 _ _ rfl; have := kKR_59.1 19 _ _ rfl; omega)
                              have b143 : ((10 * v139) + 0 : Int32).toInt = ((10 * v139.toInt) + 0) := mz_add2 b142 (by decide) (by have := kKR_59.1 15 _ _ rfl; have := kKR_59.1 16 _ _ rfl; have := kKR_59.1 19 _ _ rfl; omega) (by have := kKR_59.1 15 _ _ rfl; have := kKR_59.1 16 _ _ rfl; have := kKR_59.1 19 _ _ rfl; omega)
                              have b144 : (((10 * v139) + 0) - 48 : Int32).toInt = (((10 * v139.toInt) + 0) - 48) := mz_sub2 b143 (by decide) (by have := kKR_59.1 15 _ _ rfl; have := kKR_59.1 16 _ _ rfl; have := kKR_59.1 19 _ _ rfl; omega) (by have := kKR_59.1 15 _ _ rfl; have := kKR_59.1 16 _ _ rfl; have := kKR_59.1 19 _ _ rfl; omega)
                              refine tr_putR (k := 18) I_59 kKR_59 h_q0_59 rfl ⟨_, rfl⟩ (fun _ h => by cases h) rfl (fun lo hi h => by cases h; have := kKR_59.1 15 _ _ rfl; have := kKR_59.1 16 _ _ rfl; have := kKR_59.1 19 _ _ rfl; exact ⟨by show ((-128) : Int) ≤ (((10 * v139) + 0) - 48).toInt; omega, by show (((10 * v139) + 0) - 48).toInt ≤ (9999 : Int); omega⟩) (Or.inl (by decide)) d_TrustDeskModel_next_206 p_TrustDeskModel_201_13 rfl rfl (fun M145 I146 q147 K148 R149 A150 V151 => ?_)
                              have := V151 15 (by decide)
                              have := V151 16 (by decide)
                              have := V151 17 (by decide)
                              have := tm_rv q147
                              refine mv_aload_n d_TrustDeskModel_next_209 rfl rfl ?_
                              refine mv_dup d_TrustDeskModel_next_210 rfl ?_
                              refine tr_getK (k := 15) (K148 _ 13 15 _ rfl q60) d_TrustDeskModel_next_211 f_TrustDeskModel_192_13 ?_
                              refine mv_iconst (v := 1) d_TrustDeskModel_next_214 (by decide) ?_
                              refine mv_iadd d_TrustDeskModel_next_215 ?_
                              have b152 : (v61 + 1 : Int32).toInt = (v61.toInt + 1) := mz_add2 rfl (by decide) (by have := R149.1 15 _ _ rfl; have := R149.1 16 _ _ rfl; have := R149.1 19 _ _ rfl; omega) (by have := R149.1 15 _ _ rfl; have := R149.1 16 _ _ rfl; have := R149.1 19 _ _ rfl; omega)
                              refine tr_putR (k := 15) I146 R149 h_q0_59 rfl ⟨_, rfl⟩ (fun _ h => by cases h) rfl (fun lo hi h => by cases h; have := R149.1 15 _ _ rfl; have := R149.1 16 _ _ rfl; have := R149.1 19 _ _ rfl; exact ⟨by show (0 : Int) ≤ (v61 + 1).toInt; omega, by show (v61 + 1).toInt ≤ (400 : Int); omega⟩) (Or.inl (by decide)) d_TrustDeskModel_next_216 p_TrustDeskModel_192_13 rfl rfl (fun M153 I154 q155 K156 R157 A158 V159 => ?_)
                              have := V159 16 (by decide)
                              have := V159 17 (by decide)
                              have := V159 18 (by decide)
                              have := tm_rv q155
                              refine mv_goto (tgt := 159) d_TrustDeskModel_next_219 (by decide) ?_
                              exact (ih59 T_59 M153 n_59 I154 h_q0_59 (by have := R157.1 15 _ _ rfl; have := R157.1 16 _ _ rfl; have := R157.1 19 _ _ rfl; first | omega | decide) (by have := R157.1 15 _ _ rfl; have := R157.1 16 _ _ rfl; have := R157.1 19 _ _ rfl; first | omega | decide) (by have := R157.1 15 _ _ rfl; have := R157.1 16 _ _ rfl; have := R157.1 19 _ _ rfl; first | omega | decide) (by have := R157.1 15 _ _ rfl; have := R157.1 16 _ _ rfl; have := R157.1 19 _ _ rfl; first | omega | decide) (by have := R157.1 15 _ _ rfl; have := R157.1 16 _ _ rfl; have := R157.1 19 _ _ rfl; first | omega | decide) (by have := R157.1 15 _ _ rfl; have := R157.1 16 _ _ rfl; have := R157.1 19 _ _ rfl; first | omega | decide) R157 (by have := R157.1 15 _ _ rfl; have := R157.1 16 _ _ rfl; have := R157.1 19 _ _ rfl; omega))
                            · refine mv_aload_n d_TrustDeskModel_see_8 rfl rfl ?_
                              refine tr_getK (k := 13) q84 d_TrustDeskModel_see_9 f_TrustDeskModel_44_13 ?_
                              refine mv_iload_n d_TrustDeskModel_see_12 rfl rfl ?_
                              refine tr_baldR (o := o0) (k := 13) I_59 q84 t_a85 (by decide) d_TrustDeskModel_see_13 (vp_in_iff.mpr (by have := kKR_59.1 15 _ _ rfl; have := kKR_59.1 16 _ _ rfl; have := kKR_59.1 19 _ _ rfl; omega)) (fun v160 e161 => ?_)
                              have := kKR_59.a (k := 13) rfl (v61 : Int32).toNatClampNeg
                              refine mv_goto (tgt := 18) d_TrustDeskModel_see_14 (by decide) ?_
                              refine mv_iret d_TrustDeskModel_see_18 rfl (by first | rfl | decide) ?_
                              refine mv_iadd d_TrustDeskModel_next_202 ?_
                              refine mv_bipush (v := 48) d_TrustDeskModel_next_203 (by decide) ?_
                              refine mv_isub d_TrustDeskModel_next_205 ?_
                              have b162 : (10 * v139 : Int32).toInt = (10 * v139.toInt) := mz_mul2 (by decide) rfl (by have := kKR_59.1 15 _ _ rfl; have := kKR_59.1 16 _ _ rfl; have := kKR_59.1 19 _ _ rfl; omega) (by have := kKR_59.1 15 _ _ rfl; have := kKR_59.1 16 _ _ rfl; have := kKR_59.1 19 _ _ rfl; omega)
                              have b163 : ((10 * v139) + v160 : Int32).toInt = ((10 * v139.toInt) + v160.toInt) := mz_add2 b162 rfl (by have := kKR_59.1 15 _ _ rfl; have := kKR_59.1 16 _ _ rfl; have := kKR_59.1 19 _ _ rfl; omega) (by have := kKR_59.1 15 _ _ rfl; have := kKR_59.1 16 _ _ rfl; have := kKR_59.1 19 _ _ rfl; omega)
                              have b164 : (((10 * v139) + v160) - 48 : Int32).toInt = (((10 * v139.toInt) + v160.toInt) - 48) := mz_sub2 b163 (by decide) (by have := kKR_59.1 15 _ _ rfl; have := kKR_59.1 16 _ _ rfl; have := kKR_59.1 19 _ _ rfl; omega) (by have := kKR_59.1 15 _ _ rfl; have := kKR_59.1 16 _ _ rfl; have := kKR_59.1 19 _ _ rfl; omega)
                              refine tr_putR (k := 18) I_59 kKR_59 h_q0_59 rfl ⟨_, rfl⟩ (fun _ h => by cases h) rfl (fun lo hi h => by cases h; have := kKR_59.1 15 _ _ rfl; have := kKR_59.1 16 _ _ rfl; have := kKR_59.1 19 _ _ rfl; exact ⟨by show ((-128) : Int) ≤ (((10 * v139) + v160) - 48).toInt; omega, by show (((10 * v139) + v160) - 48).toInt ≤ (9999 : Int); omega⟩) (Or.inl (by decide)) d_TrustDeskModel_next_206 p_TrustDeskModel_201_13 rfl rfl (fun M165 I166 q167 K168 R169 A170 V171 => ?_)
                              have := V171 15 (by decide)
                              have := V171 16 (by decide)
                              have := V171 17 (by decide)
                              have := tm_rv q167
                              refine mv_aload_n d_TrustDeskModel_next_209 rfl rfl ?_
                              refine mv_dup d_TrustDeskModel_next_210 rfl ?_
                              refine tr_getK (k := 15) (K168 _ 13 15 _ rfl q60) d_TrustDeskModel_next_211 f_TrustDeskModel_192_13 ?_
                              refine mv_iconst (v := 1) d_TrustDeskModel_next_214 (by decide) ?_
                              refine mv_iadd d_TrustDeskModel_next_215 ?_
                              have b172 : (v61 + 1 : Int32).toInt = (v61.toInt + 1) := mz_add2 rfl (by decide) (by have := R169.1 15 _ _ rfl; have := R169.1 16 _ _ rfl; have := R169.1 19 _ _ rfl; omega) (by have := R169.1 15 _ _ rfl; have := R169.1 16 _ _ rfl; have := R169.1 19 _ _ rfl; omega)
                              refine tr_putR (k := 15) I166 R169 h_q0_59 rfl ⟨_, rfl⟩ (fun _ h => by cases h) rfl (fun lo hi h => by cases h; have := R169.1 15 _ _ rfl; have := R169.1 16 _ _ rfl; have := R169.1 19 _ _ rfl; exact ⟨by show (0 : Int) ≤ (v61 + 1).toInt; omega, by show (v61 + 1).toInt ≤ (400 : Int); omega⟩) (Or.inl (by decide)) d_TrustDeskModel_next_216 p_TrustDeskModel_192_13 rfl rfl (fun M173 I174 q175 K176 R177 A178 V179 => ?_)
                              have := V179 16 (by decide)
                              have := V179 17 (by decide)
                              have := V179 18 (by decide)
                              have := tm_rv q175
                              refine mv_goto (tgt := 159) d_TrustDeskModel_next_219 (by decide) ?_
                              exact (ih59 T_59 M173 n_59 I174 h_q0_59 (by have := R177.1 15 _ _ rfl; have := R177.1 16 _ _ rfl; have := R177.1 19 _ _ rfl; first | omega | decide) (by have := R177.1 15 _ _ rfl; have := R177.1 16 _ _ rfl; have := R177.1 19 _ _ rfl; first | omega | decide) (by have := R177.1 15 _ _ rfl; have := R177.1 16 _ _ rfl; have := R177.1 19 _ _ rfl; first | omega | decide) (by have := R177.1 15 _ _ rfl; have := R177.1 16 _ _ rfl; have := R177.1 19 _ _ rfl; first | omega | decide) (by have := R177.1 15 _ _ rfl; have := R177.1 16 _ _ rfl; have := R177.1 19 _ _ rfl; first | omega | decide) (by have := R177.1 15 _ _ rfl; have := R177.1 16 _ _ rfl; have := R177.1 19 _ _ rfl; first | omega | decide) R177 (by have := R177.1 15 _ _ rfl; have := R177.1 16 _ _ rfl; have := R177.1 19 _ _ rfl; omega))
                exact mv_less (Nat.zero_le _) (Nat.zero_le _) (L159_59 4294967296 T_1 M52 n_1 I53 h_q0_1 (by have := R56.1 15 _ _ rfl; have := R56.1 16 _ _ rfl; have := R56.1 19 _ _ rfl; first | omega | decide) (by have := R56.1 15 _ _ rfl; have := R56.1 16 _ _ rfl; have := R56.1 19 _ _ rfl; first | omega | decide) (by have := R56.1 15 _ _ rfl; have := R56.1 16 _ _ rfl; have := R56.1 19 _ _ rfl; first | omega | decide) (by have := R56.1 15 _ _ rfl; have := R56.1 16 _ _ rfl; have := R56.1 19 _ _ rfl; first | omega | decide) (by have := R56.1 15 _ _ rfl; have := R56.1 16 _ _ rfl; have := R56.1 19 _ _ rfl; first | omega | decide) (by have := R56.1 15 _ _ rfl; have := R56.1 16 _ _ rfl; have := R56.1 19 _ _ rfl; first | omega | decide) R56 (by have := R56.1 15 _ _ rfl; have := R56.1 16 _ _ rfl; have := R56.1 19 _ _ rfl; omega))
          · refine mv_iload_n d_TrustDeskModel_isSmall_6 rfl rfl ?_
            refine mv_bipush (v := 122) d_TrustDeskModel_isSmall_7 (by decide) ?_
            have := mz_hi v17
            refine mv_icmp_gtZ (tgt := 16) (a := v17.toInt) (b := 122) d_TrustDeskModel_isSmall_9 (by decide) rfl (by decide) (fun b180 => ?_) (fun b180 => ?_)
            · refine mv_iconst (v := 0) d_TrustDeskModel_isSmall_16 (by decide) ?_
              refine mv_iret d_TrustDeskModel_isSmall_17 rfl (by decide) ?_
              refine mv_if_eq_t (tgt := 144) d_TrustDeskModel_next_106 (by decide) (by decide) ?_
              refine mv_iload_n d_TrustDeskModel_next_144 rfl rfl ?_
              refine mv_callS (kc1 := 0) (ks1 := 0) (kc' := 0) (ks' := 0) (As := [.int v17]) (st9 := [.int v17]) d_TrustDeskModel_next_145 lS_TrustDeskModel_211 (mj_enter (by decide) (Nat.le_of_ble_eq_true rfl) ?_) rfl (Nat.le_of_ble_eq_true rfl) (Nat.le_of_ble_eq_true rfl) (Nat.le_of_ble_eq_true rfl) (hst := rfl) (fun _ _ _ h => h)
              refine mv_iload_n d_TrustDeskModel_isDigit_0 rfl rfl ?_
              refine mv_bipush (v := 48) d_TrustDeskModel_isDigit_1 (by decide) ?_
              have := mz_hi v17
              refine mv_icmp_ltZ (tgt := 16) (a := v17.toInt) (b := 48) d_TrustDeskModel_isDigit_3 (by decide) rfl (by decide) (fun b181 => absurd b181 (by omega)) (fun b181 => ?_)
              refine mv_iload_n d_TrustDeskModel_isDigit_6 rfl rfl ?_
              refine mv_bipush (v := 57) d_TrustDeskModel_isDigit_7 (by decide) ?_
              have := mz_hi v17
              refine mv_icmp_gtZ (tgt := 16) (a := v17.toInt) (b := 57) d_TrustDeskModel_isDigit_9 (by decide) rfl (by decide) (fun b182 => ?_) (fun b182 => absurd b182 (by omega))
              refine mv_iconst (v := 0) d_TrustDeskModel_isDigit_16 (by decide) ?_
              refine mv_iret d_TrustDeskModel_isDigit_17 rfl (by decide) ?_
              refine mv_if_eq_t (tgt := 247) d_TrustDeskModel_next_148 (by decide) (by decide) ?_
              refine mv_aload_n d_TrustDeskModel_next_247 rfl rfl ?_
              refine mv_iconst (v := 4) d_TrustDeskModel_next_248 (by decide) ?_
              refine tr_putR (k := 17) I28 R31 h_q0_1 rfl ⟨_, rfl⟩ (fun _ h => by cases h) rfl (fun lo hi h => by cases h) (Or.inl (by decide)) d_TrustDeskModel_next_249 p_TrustDeskModel_198_13 rfl rfl (fun M183 I184 q185 K186 R187 A188 V189 => ?_)
              have := V189 15 (by decide)
              have := V189 16 (by decide)
              have := V189 18 (by decide)
              have : rv M183 o0 17 = 4 := tm_rv q185
              exact mv_vret d_TrustDeskModel_next_252 rfl ⟨_, I184, rfl, R187, (rT_of (by omega) (by omega) (by omega)), (by have := R187.1 15 _ _ rfl; have := R187.1 16 _ _ rfl; have := R187.1 19 _ _ rfl; omega)⟩
            · refine mv_iconst (v := 1) d_TrustDeskModel_isSmall_12 (by decide) ?_
              refine mv_goto (tgt := 17) d_TrustDeskModel_isSmall_13 (by decide) ?_
              refine mv_iret d_TrustDeskModel_isSmall_17 rfl (by decide) ?_
              refine mv_if_eq_f (tgt := 144) d_TrustDeskModel_next_106 (by decide) (by decide) ?_
              have L109_190 : ∀ (k : Nat) (T_190 : tm_H) (M_190 : mj_M) (n_190 : Nat), tm_I tm_FT (tm_in w_TrustDeskModel_next_x) x9 T0 M0 n0 T_190 M_190 n_190 → T_190 o0 = some (0, 13, 0) → rv M0 o0 15 ≤ rv M_190 o0 16 → rv M_190 o0 16 < rv M_190 o0 15 → (rI M_190 o0) → 401 - rv M_190 o0 15 < (k : Int) → mj_V g l kY_TrustDeskModel_next (d + 1) 109 [(1, .int v17), (0, .ref o0)] [] M_190 n_190 0 0 (tm_Q tm_FT (tm_in w_TrustDeskModel_next_x) x9 T0 M0 n0 (fun r _ M => r = none ∧ rI M o0 ∧ (rT M o0) ∧ (rv M0 o0 15 ≤ rv M o0 16))) := by
                intro k190
                induction k190 with
                | zero =>
                  intro T_190 M_190 n_190 I_190 h_q0_190 iv0_190 iv1_190 kKR_190 hk190
                  have := kKR_190.1 15 _ _ rfl
                  have := kKR_190.1 16 _ _ rfl
                  have := kKR_190.1 19 _ _ rfl
                  exfalso; omega
                | succ k190 ih190 =>
                  intro T_190 M_190 n_190 I_190 h_q0_190 iv0_190 iv1_190 kKR_190 hk190
                  refine mv_aload_n d_TrustDeskModel_next_109 rfl rfl ?_
                  refine mv_aload_n d_TrustDeskModel_next_110 rfl rfl ?_
                  obtain ⟨v192, q191⟩ := tm_atI I_190 h_q0_190 (k := 15) rfl
                  refine tr_getK q191 d_TrustDeskModel_next_111 f_TrustDeskModel_192_13 ?_
                  have := kKR_190.f (k := 15) q191 rfl
                  have := tm_rv q191
                  obtain ⟨_, b193, -⟩ := I_190.1 _ _ h_q0_190
                  refine mv_callV (kc1 := 0) (ks1 := 0) (kc' := 0) (ks' := 0) (As := [.int v192]) (st9 := [.int v192, .ref o0]) d_TrustDeskModel_next_114 lV_TrustDeskModel_207 b193 rfl (mj_enter (by decide) (Nat.le_of_ble_eq_true rfl) ?_) rfl (Nat.le_of_ble_eq_true rfl) (Nat.le_of_ble_eq_true rfl) (Nat.le_of_ble_eq_true rfl) (hst := rfl) (fun _ _ _ h => h)
                  refine mv_iload_n d_TrustDeskModel_see_0 rfl rfl ?_
                  refine mv_aload_n d_TrustDeskModel_see_1 rfl rfl ?_
                  obtain ⟨v195, q194⟩ := tm_atI I_190 h_q0_190 (k := 14) rfl
                  refine tr_getK q194 d_TrustDeskModel_see_2 f_TrustDeskModel_189_13 ?_
                  have := kKR_190.f (k := 14) q194 rfl
                  have := mz_hi v192
                  have := mz_hi v195
                  refine mv_icmp_geZ (tgt := 17) (a := v192.toInt) (b := v195.toInt) d_TrustDeskModel_see_5 (by decide) rfl rfl (fun b196 => ?_) (fun b196 => ?_)
                  · refine mv_iconst (v := 0) d_TrustDeskModel_see_17 (by decide) ?_
                    refine mv_iret d_TrustDeskModel_see_18 rfl (by first | rfl | decide) ?_
                    refine mv_callS (kc1 := 0) (ks1 := 0) (kc' := 0) (ks' := 0) (As := [.int 0]) (st9 := [.int 0]) d_TrustDeskModel_next_117 lS_TrustDeskModel_204 (mj_enter (by decide) (Nat.le_of_ble_eq_true rfl) ?_) rfl (Nat.le_of_ble_eq_true rfl) (Nat.le_of_ble_eq_true rfl) (Nat.le_of_ble_eq_true rfl) (hst := rfl) (fun _ _ _ h => h)
                    refine mv_iload_n d_TrustDeskModel_isSmall_0 rfl rfl ?_
                    refine mv_bipush (v := 97) d_TrustDeskModel_isSmall_1 (by decide) ?_
                    refine mv_icmp_lt_t (tgt := 16) d_TrustDeskModel_isSmall_3 (by decide) (by decide) ?_
                    refine mv_iconst (v := 0) d_TrustDeskModel_isSmall_16 (by decide) ?_
                    refine mv_iret d_TrustDeskModel_isSmall_17 rfl (by decide) ?_
                    refine mv_if_eq_t (tgt := 136) d_TrustDeskModel_next_120 (by decide) (by decide) ?_
                    refine mv_aload_n d_TrustDeskModel_next_136 rfl rfl ?_
                    refine mv_iconst (v := 3) d_TrustDeskModel_next_137 (by decide) ?_
                    refine tr_putR (k := 17) I_190 kKR_190 h_q0_190 rfl ⟨_, rfl⟩ (fun _ h => by cases h) rfl (fun lo hi h => by cases h) (Or.inl (by decide)) d_TrustDeskModel_next_138 p_TrustDeskModel_198_13 rfl rfl (fun M197 I198 q199 K200 R201 A202 V203 => ?_)
                    have := V203 15 (by decide)
                    have := V203 16 (by decide)
                    have := V203 18 (by decide)
                    have : rv M197 o0 17 = 3 := tm_rv q199
                    refine mv_goto (tgt := 252) d_TrustDeskModel_next_141 (by decide) ?_
                    exact mv_vret d_TrustDeskModel_next_252 rfl ⟨_, I198, rfl, R201, (rT_of (by omega) (by omega) (by omega)), (by have := R201.1 15 _ _ rfl; have := R201.1 16 _ _ rfl; have := R201.1 19 _ _ rfl; omega)⟩
                  · refine mv_aload_n d_TrustDeskModel_see_8 rfl rfl ?_
                    obtain ⟨a205, q204, t_a205⟩ := tm_atR I_190 h_q0_190 (k := 13) rfl
                    refine tr_getK q204 d_TrustDeskModel_see_9 f_TrustDeskModel_44_13 ?_
                    refine mv_iload_n d_TrustDeskModel_see_12 rfl rfl ?_
                    refine tr_baldR (o := o0) (k := 13) I_190 q204 t_a205 (by decide) d_TrustDeskModel_see_13 (vp_in_iff.mpr (by have := kKR_190.1 15 _ _ rfl; have := kKR_190.1 16 _ _ rfl; have := kKR_190.1 19 _ _ rfl; omega)) (fun v206 e207 => ?_)
                    have := kKR_190.a (k := 13) rfl (v192 : Int32).toNatClampNeg
                    refine mv_goto (tgt := 18) d_TrustDeskModel_see_14 (by decide) ?_
                    refine mv_iret d_TrustDeskModel_see_18 rfl (by first | rfl | decide) ?_
                    refine mv_callS (kc1 := 0) (ks1 := 0) (kc' := 0) (ks' := 0) (As := [.int v206]) (st9 := [.int v206]) d_TrustDeskModel_next_117 lS_TrustDeskModel_204 (mj_enter (by decide) (Nat.le_of_ble_eq_true rfl) ?_) rfl (Nat.le_of_ble_eq_true rfl) (Nat.le_of_ble_eq_true rfl) (Nat.le_of_ble_eq_true rfl) (hst := rfl) (fun _ _ _ h => h)
                    refine mv_iload_n d_TrustDeskModel_isSmall_0 rfl rfl ?_
                    refine mv_bipush (v := 97) d_TrustDeskModel_isSmall_1 (by decide) ?_
                    have := mz_hi v206
                    refine mv_icmp_ltZ (tgt := 16) (a := v206.toInt) (b := 97) d_TrustDeskModel_isSmall_3 (by decide) rfl (by decide) (fun b208 => ?_) (fun b208 => ?_)
                    · refine mv_iconst (v := 0) d_TrustDeskModel_isSmall_16 (by decide) ?_
                      refine mv_iret d_TrustDeskModel_isSmall_17 rfl (by decide) ?_
                      refine mv_if_eq_t (tgt := 136) d_TrustDeskModel_next_120 (by decide) (by decide) ?_
                      refine mv_aload_n d_TrustDeskModel_next_136 rfl rfl ?_
                      refine mv_iconst (v := 3) d_TrustDeskModel_next_137 (by decide) ?_
                      refine tr_putR (k := 17) I_190 kKR_190 h_q0_190 rfl ⟨_, rfl⟩ (fun _ h => by cases h) rfl (fun lo hi h => by cases h) (Or.inl (by decide)) d_TrustDeskModel_next_138 p_TrustDeskModel_198_13 rfl rfl (fun M209 I210 q211 K212 R213 A214 V215 => ?_)
                      have := V215 15 (by decide)
                      have := V215 16 (by decide)
                      have := V215 18 (by decide)
                      have : rv M209 o0 17 = 3 := tm_rv q211
                      refine mv_goto (tgt := 252) d_TrustDeskModel_next_141 (by decide) ?_
                      exact mv_vret d_TrustDeskModel_next_252 rfl ⟨_, I210, rfl, R213, (rT_of (by omega) (by omega) (by omega)), (by have := R213.1 15 _ _ rfl; have := R213.1 16 _ _ rfl; have := R213.1 19 _ _ rfl; omega)⟩
                    · refine mv_iload_n d_TrustDeskModel_isSmall_6 rfl rfl ?_
                      refine mv_bipush (v := 122) d_TrustDeskModel_isSmall_7 (by decide) ?_
                      have := mz_hi v206
                      refine mv_icmp_gtZ (tgt := 16) (a := v206.toInt) (b := 122) d_TrustDeskModel_isSmall_9 (by decide) rfl (by decide) (fun b216 => ?_) (fun b216 => ?_)
                      · refine mv_iconst (v := 0) d_TrustDeskModel_isSmall_16 (by decide) ?_
                        refine mv_iret d_TrustDeskModel_isSmall_17 rfl (by decide) ?_
                        refine mv_if_eq_t (tgt := 136) d_TrustDeskModel_next_120 (by decide) (by decide) ?_
                        refine mv_aload_n d_TrustDeskModel_next_136 rfl rfl ?_
                        refine mv_iconst (v := 3) d_TrustDeskModel_next_137 (by decide) ?_
                        refine tr_putR (k := 17) I_190 kKR_190 h_q0_190 rfl ⟨_, rfl⟩ (fun _ h => by cases h) rfl (fun lo hi h => by cases h) (Or.inl (by decide)) d_TrustDeskModel_next_138 p_TrustDeskModel_198_13 rfl rfl (fun M217 I218 q219 K220 R221 A222 V223 => ?_)
                        have := V223 15 (by decide)
                        have := V223 16 (by decide)
                        have := V223 18 (by decide)
                        have : rv M217 o0 17 = 3 := tm_rv q219
                        refine mv_goto (tgt := 252) d_TrustDeskModel_next_141 (by decide) ?_
                        exact mv_vret d_TrustDeskModel_next_252 rfl ⟨_, I218, rfl, R221, (rT_of (by omega) (by omega) (by omega)), (by have := R221.1 15 _ _ rfl; have := R221.1 16 _ _ rfl; have := R221.1 19 _ _ rfl; omega)⟩
                      · refine mv_iconst (v := 1) d_TrustDeskModel_isSmall_12 (by decide) ?_
                        refine mv_goto (tgt := 17) d_TrustDeskModel_isSmall_13 (by decide) ?_
                        refine mv_iret d_TrustDeskModel_isSmall_17 rfl (by decide) ?_
                        refine mv_if_eq_f (tgt := 136) d_TrustDeskModel_next_120 (by decide) (by decide) ?_
                        refine mv_aload_n d_TrustDeskModel_next_123 rfl rfl ?_
                        refine mv_dup d_TrustDeskModel_next_124 rfl ?_
                        refine tr_getK (k := 15) q191 d_TrustDeskModel_next_125 f_TrustDeskModel_192_13 ?_
                        refine mv_iconst (v := 1) d_TrustDeskModel_next_128 (by decide) ?_
                        refine mv_iadd d_TrustDeskModel_next_129 ?_
                        have b224 : (v192 + 1 : Int32).toInt = (v192.toInt + 1) := mz_add2 rfl (by decide) (by have := kKR_190.1 15 _ _ rfl; have := kKR_190.1 16 _ _ rfl; have := kKR_190.1 19 _ _ rfl; omega) (by have := kKR_190.1 15 _ _ rfl; have := kKR_190.1 16 _ _ rfl; have := kKR_190.1 19 _ _ rfl; omega)
                        refine tr_putR (k := 15) I_190 kKR_190 h_q0_190 rfl ⟨_, rfl⟩ (fun _ h => by cases h) rfl (fun lo hi h => by cases h; have := kKR_190.1 15 _ _ rfl; have := kKR_190.1 16 _ _ rfl; have := kKR_190.1 19 _ _ rfl; exact ⟨by show (0 : Int) ≤ (v192 + 1).toInt; omega, by show (v192 + 1).toInt ≤ (400 : Int); omega⟩) (Or.inl (by decide)) d_TrustDeskModel_next_130 p_TrustDeskModel_192_13 rfl rfl (fun M225 I226 q227 K228 R229 A230 V231 => ?_)
                        have := V231 16 (by decide)
                        have := V231 17 (by decide)
                        have := V231 18 (by decide)
                        have := tm_rv q227
                        refine mv_goto (tgt := 109) d_TrustDeskModel_next_133 (by decide) ?_
                        exact (ih190 T_190 M225 n_190 I226 h_q0_190 (by have := R229.1 15 _ _ rfl; have := R229.1 16 _ _ rfl; have := R229.1 19 _ _ rfl; first | omega | decide) (by have := R229.1 15 _ _ rfl; have := R229.1 16 _ _ rfl; have := R229.1 19 _ _ rfl; first | omega | decide) R229 (by have := R229.1 15 _ _ rfl; have := R229.1 16 _ _ rfl; have := R229.1 19 _ _ rfl; omega))
              exact mv_less (Nat.zero_le _) (Nat.zero_le _) (L109_190 4294967296 T_1 M27 n_1 I28 h_q0_1 (by have := R31.1 15 _ _ rfl; have := R31.1 16 _ _ rfl; have := R31.1 19 _ _ rfl; first | omega | decide) (by have := R31.1 15 _ _ rfl; have := R31.1 16 _ _ rfl; have := R31.1 19 _ _ rfl; first | omega | decide) R31 (by have := R31.1 15 _ _ rfl; have := R31.1 16 _ _ rfl; have := R31.1 19 _ _ rfl; omega))
        · refine mv_aload_n d_TrustDeskModel_next_71 rfl rfl ?_
          refine mv_iconst (v := 0) d_TrustDeskModel_next_72 (by decide) ?_
          refine tr_putR (k := 17) I8 R11 h_q0_1 rfl ⟨_, rfl⟩ (fun _ h => by cases h) rfl (fun lo hi h => by cases h) (Or.inl (by decide)) d_TrustDeskModel_next_73 p_TrustDeskModel_198_13 rfl rfl (fun M232 I233 q234 K235 R236 A237 V238 => ?_)
          have := V238 15 (by decide)
          have := V238 16 (by decide)
          have := V238 18 (by decide)
          have : rv M232 o0 17 = 0 := tm_rv q234
          exact mv_vret d_TrustDeskModel_next_76 rfl ⟨_, I233, rfl, R236, (rT_of (by omega) (by omega) (by omega)), (by have := R236.1 15 _ _ rfl; have := R236.1 16 _ _ rfl; have := R236.1 19 _ _ rfl; omega)⟩
      · refine mv_aload_n d_TrustDeskModel_next_11 rfl rfl ?_
        obtain ⟨a240, q239, t_a240⟩ := tm_atR I_1 h_q0_1 (k := 13) rfl
        refine tr_getK q239 d_TrustDeskModel_next_12 f_TrustDeskModel_44_13 ?_
        refine mv_aload_n d_TrustDeskModel_next_15 rfl rfl ?_
        refine tr_getK (k := 15) q2 d_TrustDeskModel_next_16 f_TrustDeskModel_192_13 ?_
        refine tr_baldR (o := o0) (k := 13) I_1 q239 t_a240 (by decide) d_TrustDeskModel_next_19 (vp_in_iff.mpr (by have := kKR_1.1 15 _ _ rfl; have := kKR_1.1 16 _ _ rfl; have := kKR_1.1 19 _ _ rfl; omega)) (fun v241 e242 => ?_)
        have := kKR_1.a (k := 13) rfl (v3 : Int32).toNatClampNeg
        refine mv_bipush (v := 32) d_TrustDeskModel_next_20 (by decide) ?_
        have := mz_hi v241
        refine mv_icmp_eqZ (tgt := 39) (a := v241.toInt) (b := 32) d_TrustDeskModel_next_22 (by decide) rfl (by decide) (fun b243 => ?_) (fun b243 => ?_)
        · refine mv_aload_n d_TrustDeskModel_next_39 rfl rfl ?_
          refine mv_dup d_TrustDeskModel_next_40 rfl ?_
          refine tr_getK (k := 15) q2 d_TrustDeskModel_next_41 f_TrustDeskModel_192_13 ?_
          refine mv_iconst (v := 1) d_TrustDeskModel_next_44 (by decide) ?_
          refine mv_iadd d_TrustDeskModel_next_45 ?_
          have b244 : (v3 + 1 : Int32).toInt = (v3.toInt + 1) := mz_add2 rfl (by decide) (by have := kKR_1.1 15 _ _ rfl; have := kKR_1.1 16 _ _ rfl; have := kKR_1.1 19 _ _ rfl; omega) (by have := kKR_1.1 15 _ _ rfl; have := kKR_1.1 16 _ _ rfl; have := kKR_1.1 19 _ _ rfl; omega)
          refine tr_putR (k := 15) I_1 kKR_1 h_q0_1 rfl ⟨_, rfl⟩ (fun _ h => by cases h) rfl (fun lo hi h => by cases h; have := kKR_1.1 15 _ _ rfl; have := kKR_1.1 16 _ _ rfl; have := kKR_1.1 19 _ _ rfl; exact ⟨by show (0 : Int) ≤ (v3 + 1).toInt; omega, by show (v3 + 1).toInt ≤ (400 : Int); omega⟩) (Or.inl (by decide)) d_TrustDeskModel_next_46 p_TrustDeskModel_192_13 rfl rfl (fun M245 I246 q247 K248 R249 A250 V251 => ?_)
          have := V251 16 (by decide)
          have := V251 17 (by decide)
          have := V251 18 (by decide)
          have := tm_rv q247
          refine mv_goto (tgt := 0) d_TrustDeskModel_next_49 (by decide) ?_
          exact (ih1 T_1 M245 n_1 I246 h_q0_1 (by have := R249.1 15 _ _ rfl; have := R249.1 16 _ _ rfl; have := R249.1 19 _ _ rfl; first | omega | decide) R249 (by have := R249.1 15 _ _ rfl; have := R249.1 16 _ _ rfl; have := R249.1 19 _ _ rfl; omega))
        · refine mv_aload_n d_TrustDeskModel_next_25 rfl rfl ?_
          refine tr_getK (k := 13) q239 d_TrustDeskModel_next_26 f_TrustDeskModel_44_13 ?_
          refine mv_aload_n d_TrustDeskModel_next_29 rfl rfl ?_
          refine tr_getK (k := 15) q2 d_TrustDeskModel_next_30 f_TrustDeskModel_192_13 ?_
          refine tr_baldR (o := o0) (k := 13) I_1 q239 t_a240 (by decide) d_TrustDeskModel_next_33 (vp_in_iff.mpr (by have := kKR_1.1 15 _ _ rfl; have := kKR_1.1 16 _ _ rfl; have := kKR_1.1 19 _ _ rfl; omega)) (fun v252 e253 => ?_)
          have := kKR_1.a (k := 13) rfl (v3 : Int32).toNatClampNeg
          refine mv_bipush (v := 10) d_TrustDeskModel_next_34 (by decide) ?_
          have := mz_hi v252
          refine mv_icmp_neZ (tgt := 52) (a := v252.toInt) (b := 10) d_TrustDeskModel_next_36 (by decide) rfl (by decide) (fun b254 => ?_) (fun b254 => ?_)
          · refine mv_aload_n d_TrustDeskModel_next_52 rfl rfl ?_
            refine mv_aload_n d_TrustDeskModel_next_53 rfl rfl ?_
            refine tr_getK (k := 15) q2 d_TrustDeskModel_next_54 f_TrustDeskModel_192_13 ?_
            refine tr_putR (k := 16) I_1 kKR_1 h_q0_1 rfl ⟨_, rfl⟩ (fun _ h => by cases h) rfl (fun lo hi h => by cases h; have := kKR_1.1 15 _ _ rfl; have := kKR_1.1 16 _ _ rfl; have := kKR_1.1 19 _ _ rfl; exact ⟨by show (0 : Int) ≤ v3.toInt; omega, by show v3.toInt ≤ (400 : Int); omega⟩) (Or.inl (by decide)) d_TrustDeskModel_next_57 p_TrustDeskModel_195_13 rfl rfl (fun M255 I256 q257 K258 R259 A260 V261 => ?_)
            have := V261 15 (by decide)
            have := V261 17 (by decide)
            have := V261 18 (by decide)
            have := tm_rv q257
            refine mv_aload_n d_TrustDeskModel_next_60 rfl rfl ?_
            refine tr_getK (k := 15) (K258 _ 13 15 _ rfl q2) d_TrustDeskModel_next_61 f_TrustDeskModel_192_13 ?_
            refine mv_aload_n d_TrustDeskModel_next_64 rfl rfl ?_
            refine tr_getK (k := 14) (K258 _ 13 14 _ rfl q4) d_TrustDeskModel_next_65 f_TrustDeskModel_189_13 ?_
            have := mz_hi v3
            have := mz_hi v5
            refine mv_icmp_ltZ (tgt := 77) (a := v3.toInt) (b := v5.toInt) d_TrustDeskModel_next_68 (by decide) rfl rfl (fun b262 => ?_) (fun b262 => ?_)
            · refine mv_aload_n d_TrustDeskModel_next_77 rfl rfl ?_
              refine tr_getK (k := 13) (K258 _ 13 13 _ rfl q239) d_TrustDeskModel_next_78 f_TrustDeskModel_44_13 ?_
              refine mv_aload_n d_TrustDeskModel_next_81 rfl rfl ?_
              refine tr_getK (k := 15) (K258 _ 13 15 _ rfl q2) d_TrustDeskModel_next_82 f_TrustDeskModel_192_13 ?_
              refine tr_baldR (o := o0) (k := 13) I256 (K258 _ 13 13 _ rfl q239) t_a240 (by decide) d_TrustDeskModel_next_85 (vp_in_iff.mpr (by have := R259.1 15 _ _ rfl; have := R259.1 16 _ _ rfl; have := R259.1 19 _ _ rfl; omega)) (fun v263 e264 => ?_)
              have := R259.a (k := 13) rfl (v3 : Int32).toNatClampNeg
              refine mv_istore_n (lv' := [(1, .int v263), (0, .ref o0)]) d_TrustDeskModel_next_86 rfl (by decide) rfl ?_
              refine mv_aload_n d_TrustDeskModel_next_87 rfl rfl ?_
              refine mv_dup d_TrustDeskModel_next_88 rfl ?_
              refine tr_getK (k := 15) (K258 _ 13 15 _ rfl q2) d_TrustDeskModel_next_89 f_TrustDeskModel_192_13 ?_
              refine mv_iconst (v := 1) d_TrustDeskModel_next_92 (by decide) ?_
              refine mv_iadd d_TrustDeskModel_next_93 ?_
              have b265 : (v3 + 1 : Int32).toInt = (v3.toInt + 1) := mz_add2 rfl (by decide) (by have := R259.1 15 _ _ rfl; have := R259.1 16 _ _ rfl; have := R259.1 19 _ _ rfl; omega) (by have := R259.1 15 _ _ rfl; have := R259.1 16 _ _ rfl; have := R259.1 19 _ _ rfl; omega)
              refine tr_putR (k := 15) I256 R259 h_q0_1 rfl ⟨_, rfl⟩ (fun _ h => by cases h) rfl (fun lo hi h => by cases h; have := R259.1 15 _ _ rfl; have := R259.1 16 _ _ rfl; have := R259.1 19 _ _ rfl; exact ⟨by show (0 : Int) ≤ (v3 + 1).toInt; omega, by show (v3 + 1).toInt ≤ (400 : Int); omega⟩) (Or.inl (by decide)) d_TrustDeskModel_next_94 p_TrustDeskModel_192_13 rfl rfl (fun M266 I267 q268 K269 R270 A271 V272 => ?_)
              have := V272 16 (by decide)
              have := V272 17 (by decide)
              have := V272 18 (by decide)
              have := tm_rv q268
              refine mv_aload_n d_TrustDeskModel_next_97 rfl rfl ?_
              refine mv_iload_n d_TrustDeskModel_next_98 rfl rfl ?_
              refine tr_putR (k := 18) I267 R270 h_q0_1 rfl ⟨_, rfl⟩ (fun _ h => by cases h) rfl (fun lo hi h => by cases h; have := R270.1 15 _ _ rfl; have := R270.1 16 _ _ rfl; have := R270.1 19 _ _ rfl; exact ⟨by show ((-128) : Int) ≤ v263.toInt; omega, by show v263.toInt ≤ (9999 : Int); omega⟩) (Or.inl (by decide)) d_TrustDeskModel_next_99 p_TrustDeskModel_201_13 rfl rfl (fun M273 I274 q275 K276 R277 A278 V279 => ?_)
              have := V279 15 (by decide)
              have := V279 16 (by decide)
              have := V279 17 (by decide)
              have := tm_rv q275
              refine mv_iload_n d_TrustDeskModel_next_102 rfl rfl ?_
              refine mv_callS (kc1 := 0) (ks1 := 0) (kc' := 0) (ks' := 0) (As := [.int v263]) (st9 := [.int v263]) d_TrustDeskModel_next_103 lS_TrustDeskModel_204 (mj_enter (by decide) (Nat.le_of_ble_eq_true rfl) ?_) rfl (Nat.le_of_ble_eq_true rfl) (Nat.le_of_ble_eq_true rfl) (Nat.le_of_ble_eq_true rfl) (hst := rfl) (fun _ _ _ h => h)
              refine mv_iload_n d_TrustDeskModel_isSmall_0 rfl rfl ?_
              refine mv_bipush (v := 97) d_TrustDeskModel_isSmall_1 (by decide) ?_
              have := mz_hi v263
              refine mv_icmp_ltZ (tgt := 16) (a := v263.toInt) (b := 97) d_TrustDeskModel_isSmall_3 (by decide) rfl (by decide) (fun b280 => ?_) (fun b280 => ?_)
              · refine mv_iconst (v := 0) d_TrustDeskModel_isSmall_16 (by decide) ?_
                refine mv_iret d_TrustDeskModel_isSmall_17 rfl (by decide) ?_
                refine mv_if_eq_t (tgt := 144) d_TrustDeskModel_next_106 (by decide) (by decide) ?_
                refine mv_iload_n d_TrustDeskModel_next_144 rfl rfl ?_
                refine mv_callS (kc1 := 0) (ks1 := 0) (kc' := 0) (ks' := 0) (As := [.int v263]) (st9 := [.int v263]) d_TrustDeskModel_next_145 lS_TrustDeskModel_211 (mj_enter (by decide) (Nat.le_of_ble_eq_true rfl) ?_) rfl (Nat.le_of_ble_eq_true rfl) (Nat.le_of_ble_eq_true rfl) (Nat.le_of_ble_eq_true rfl) (hst := rfl) (fun _ _ _ h => h)
                refine mv_iload_n d_TrustDeskModel_isDigit_0 rfl rfl ?_
                refine mv_bipush (v := 48) d_TrustDeskModel_isDigit_1 (by decide) ?_
                have := mz_hi v263
                refine mv_icmp_ltZ (tgt := 16) (a := v263.toInt) (b := 48) d_TrustDeskModel_isDigit_3 (by decide) rfl (by decide) (fun b281 => ?_) (fun b281 => ?_)
                · refine mv_iconst (v := 0) d_TrustDeskModel_isDigit_16 (by decide) ?_
                  refine mv_iret d_TrustDeskModel_isDigit_17 rfl (by decide) ?_
                  refine mv_if_eq_t (tgt := 247) d_TrustDeskModel_next_148 (by decide) (by decide) ?_
                  refine mv_aload_n d_TrustDeskModel_next_247 rfl rfl ?_
                  refine mv_iconst (v := 4) d_TrustDeskModel_next_248 (by decide) ?_
                  refine tr_putR (k := 17) I274 R277 h_q0_1 rfl ⟨_, rfl⟩ (fun _ h => by cases h) rfl (fun lo hi h => by cases h) (Or.inl (by decide)) d_TrustDeskModel_next_249 p_TrustDeskModel_198_13 rfl rfl (fun M282 I283 q284 K285 R286 A287 V288 => ?_)
                  have := V288 15 (by decide)
                  have := V288 16 (by decide)
                  have := V288 18 (by decide)
                  have : rv M282 o0 17 = 4 := tm_rv q284
                  exact mv_vret d_TrustDeskModel_next_252 rfl ⟨_, I283, rfl, R286, (rT_of (by omega) (by omega) (by omega)), (by have := R286.1 15 _ _ rfl; have := R286.1 16 _ _ rfl; have := R286.1 19 _ _ rfl; omega)⟩
                · refine mv_iload_n d_TrustDeskModel_isDigit_6 rfl rfl ?_
                  refine mv_bipush (v := 57) d_TrustDeskModel_isDigit_7 (by decide) ?_
                  have := mz_hi v263
                  refine mv_icmp_gtZ (tgt := 16) (a := v263.toInt) (b := 57) d_TrustDeskModel_isDigit_9 (by decide) rfl (by decide) (fun b289 => ?_) (fun b289 => ?_)
                  · refine mv_iconst (v := 0) d_TrustDeskModel_isDigit_16 (by decide) ?_
                    refine mv_iret d_TrustDeskModel_isDigit_17 rfl (by decide) ?_
                    refine mv_if_eq_t (tgt := 247) d_TrustDeskModel_next_148 (by decide) (by decide) ?_
                    refine mv_aload_n d_TrustDeskModel_next_247 rfl rfl ?_
                    refine mv_iconst (v := 4) d_TrustDeskModel_next_248 (by decide) ?_
                    refine tr_putR (k := 17) I274 R277 h_q0_1 rfl ⟨_, rfl⟩ (fun _ h => by cases h) rfl (fun lo hi h => by cases h) (Or.inl (by decide)) d_TrustDeskModel_next_249 p_TrustDeskModel_198_13 rfl rfl (fun M290 I291 q292 K293 R294 A295 V296 => ?_)
                    have := V296 15 (by decide)
                    have := V296 16 (by decide)
                    have := V296 18 (by decide)
                    have : rv M290 o0 17 = 4 := tm_rv q292
                    exact mv_vret d_TrustDeskModel_next_252 rfl ⟨_, I291, rfl, R294, (rT_of (by omega) (by omega) (by omega)), (by have := R294.1 15 _ _ rfl; have := R294.1 16 _ _ rfl; have := R294.1 19 _ _ rfl; omega)⟩
                  · refine mv_iconst (v := 1) d_TrustDeskModel_isDigit_12 (by decide) ?_
                    refine mv_goto (tgt := 17) d_TrustDeskModel_isDigit_13 (by decide) ?_
                    refine mv_iret d_TrustDeskModel_isDigit_17 rfl (by decide) ?_
                    refine mv_if_eq_f (tgt := 247) d_TrustDeskModel_next_148 (by decide) (by decide) ?_
                    refine mv_aload_n d_TrustDeskModel_next_151 rfl rfl ?_
                    refine mv_iload_n d_TrustDeskModel_next_152 rfl rfl ?_
                    refine mv_bipush (v := 48) d_TrustDeskModel_next_153 (by decide) ?_
                    refine mv_isub d_TrustDeskModel_next_155 ?_
                    have b297 : (v263 - 48 : Int32).toInt = (v263.toInt - 48) := mz_sub2 rfl (by decide) (by have := R277.1 15 _ _ rfl; have := R277.1 16 _ _ rfl; have := R277.1 19 _ _ rfl; omega) (by have := R277.1 15 _ _ rfl; have := R277.1 16 _ _ rfl; have := R277.1 19 _ _ rfl; omega)
                    refine tr_putR (k := 18) I274 R277 h_q0_1 rfl ⟨_, rfl⟩ (fun _ h => by cases h) rfl (fun lo hi h => by cases h; have := R277.1 15 _ _ rfl; have := R277.1 16 _ _ rfl; have := R277.1 19 _ _ rfl; exact ⟨by show ((-128) : Int) ≤ (v263 - 48).toInt; omega, by show (v263 - 48).toInt ≤ (9999 : Int); omega⟩) (Or.inl (by decide)) d_TrustDeskModel_next_156 p_TrustDeskModel_201_13 rfl rfl (fun M298 I299 q300 K301 R302 A303 V304 => ?_)
                    have := V304 15 (by decide)
                    have := V304 16 (by decide)
                    have := V304 17 (by decide)
                    have := tm_rv q300
                    have L159_305 : ∀ (k : Nat) (T_305 : tm_H) (M_305 : mj_M) (n_305 : Nat), tm_I tm_FT (tm_in w_TrustDeskModel_next_x) x9 T0 M0 n0 T_305 M_305 n_305 → T_305 o0 = some (0, 13, 0) → rv M0 o0 15 ≤ rv M_305 o0 16 → rv M_305 o0 16 < rv M_305 o0 15 → 0 ≤ rv M_305 o0 18 → (rv M_305 o0 15 - rv M_305 o0 16 ≤ 1 → rv M_305 o0 18 ≤ 9) → (rv M_305 o0 15 - rv M_305 o0 16 ≤ 2 → rv M_305 o0 18 ≤ 99) → (rv M_305 o0 15 - rv M_305 o0 16 ≤ 3 → rv M_305 o0 18 ≤ 999) → (rI M_305 o0) → 401 - rv M_305 o0 15 < (k : Int) → mj_V g l kY_TrustDeskModel_next (d + 1) 159 [(1, .int v263), (0, .ref o0)] [] M_305 n_305 0 0 (tm_Q tm_FT (tm_in w_TrustDeskModel_next_x) x9 T0 M0 n0 (fun r _ M => r = none ∧ rI M o0 ∧ (rT M o0) ∧ (rv M0 o0 15 ≤ rv M o0 16))) := by
                      intro k305
                      induction k305 with
                      | zero =>
                        intro T_305 M_305 n_305 I_305 h_q0_305 iv0_305 iv1_305 iv2_305 iv3_305 iv4_305 iv5_305 kKR_305 hk305
                        have := kKR_305.1 15 _ _ rfl
                        have := kKR_305.1 16 _ _ rfl
                        have := kKR_305.1 19 _ _ rfl
                        exfalso; omega
                      | succ k305 ih305 =>
                        intro T_305 M_305 n_305 I_305 h_q0_305 iv0_305 iv1_305 iv2_305 iv3_305 iv4_305 iv5_305 kKR_305 hk305
                        refine mv_aload_n d_TrustDeskModel_next_159 rfl rfl ?_
                        refine mv_aload_n d_TrustDeskModel_next_160 rfl rfl ?_
                        obtain ⟨v307, q306⟩ := tm_atI I_305 h_q0_305 (k := 15) rfl
                        refine tr_getK q306 d_TrustDeskModel_next_161 f_TrustDeskModel_192_13 ?_
                        have := kKR_305.f (k := 15) q306 rfl
                        have := tm_rv q306
                        obtain ⟨_, b308, -⟩ := I_305.1 _ _ h_q0_305
                        refine mv_callV (kc1 := 0) (ks1 := 0) (kc' := 0) (ks' := 0) (As := [.int v307]) (st9 := [.int v307, .ref o0]) d_TrustDeskModel_next_164 lV_TrustDeskModel_207 b308 rfl (mj_enter (by decide) (Nat.le_of_ble_eq_true rfl) ?_) rfl (Nat.le_of_ble_eq_true rfl) (Nat.le_of_ble_eq_true rfl) (Nat.le_of_ble_eq_true rfl) (hst := rfl) (fun _ _ _ h => h)
                        refine mv_iload_n d_TrustDeskModel_see_0 rfl rfl ?_
                        refine mv_aload_n d_TrustDeskModel_see_1 rfl rfl ?_
                        obtain ⟨v310, q309⟩ := tm_atI I_305 h_q0_305 (k := 14) rfl
                        refine tr_getK q309 d_TrustDeskModel_see_2 f_TrustDeskModel_189_13 ?_
                        have := kKR_305.f (k := 14) q309 rfl
                        have := mz_hi v307
                        have := mz_hi v310
                        refine mv_icmp_geZ (tgt := 17) (a := v307.toInt) (b := v310.toInt) d_TrustDeskModel_see_5 (by decide) rfl rfl (fun b311 => ?_) (fun b311 => ?_)
                        · refine mv_iconst (v := 0) d_TrustDeskModel_see_17 (by decide) ?_
                          refine mv_iret d_TrustDeskModel_see_18 rfl (by first | rfl | decide) ?_
                          refine mv_callS (kc1 := 0) (ks1 := 0) (kc' := 0) (ks' := 0) (As := [.int 0]) (st9 := [.int 0]) d_TrustDeskModel_next_167 lS_TrustDeskModel_211 (mj_enter (by decide) (Nat.le_of_ble_eq_true rfl) ?_) rfl (Nat.le_of_ble_eq_true rfl) (Nat.le_of_ble_eq_true rfl) (Nat.le_of_ble_eq_true rfl) (hst := rfl) (fun _ _ _ h => h)
                          refine mv_iload_n d_TrustDeskModel_isDigit_0 rfl rfl ?_
                          refine mv_bipush (v := 48) d_TrustDeskModel_isDigit_1 (by decide) ?_
                          refine mv_icmp_lt_t (tgt := 16) d_TrustDeskModel_isDigit_3 (by decide) (by decide) ?_
                          refine mv_iconst (v := 0) d_TrustDeskModel_isDigit_16 (by decide) ?_
                          refine mv_iret d_TrustDeskModel_isDigit_17 rfl (by decide) ?_
                          refine mv_if_eq_t (tgt := 222) d_TrustDeskModel_next_170 (by decide) (by decide) ?_
                          refine mv_aload_n d_TrustDeskModel_next_222 rfl rfl ?_
                          refine mv_aload_n d_TrustDeskModel_next_223 rfl rfl ?_
                          refine tr_getK (k := 15) q306 d_TrustDeskModel_next_224 f_TrustDeskModel_192_13 ?_
                          refine mv_aload_n d_TrustDeskModel_next_227 rfl rfl ?_
                          obtain ⟨v313, q312⟩ := tm_atI I_305 h_q0_305 (k := 16) rfl
                          refine tr_getK q312 d_TrustDeskModel_next_228 f_TrustDeskModel_195_13 ?_
                          have := kKR_305.f (k := 16) q312 rfl
                          have := tm_rv q312
                          refine mv_isub d_TrustDeskModel_next_231 ?_
                          refine mv_iconst (v := 4) d_TrustDeskModel_next_232 (by decide) ?_
                          have b314 : (v307 - v313 : Int32).toInt = (v307.toInt - v313.toInt) := mz_sub2 rfl rfl (by have := kKR_305.1 15 _ _ rfl; have := kKR_305.1 16 _ _ rfl; have := kKR_305.1 19 _ _ rfl; omega) (by have := kKR_305.1 15 _ _ rfl; have := kKR_305.1 16 _ _ rfl; have := kKR_305.1 19 _ _ rfl; omega)
                          have := mz_hi (v307 - v313)
                          refine mv_icmp_leZ (tgt := 240) (a := (v307 - v313).toInt) (b := 4) d_TrustDeskModel_next_233 (by decide) rfl (by decide) (fun b315 => ?_) (fun b315 => ?_)
                          · refine mv_iconst (v := 2) d_TrustDeskModel_next_240 (by decide) ?_
                            refine tr_putR (k := 17) I_305 kKR_305 h_q0_305 rfl ⟨_, rfl⟩ (fun _ h => by cases h) rfl (fun lo hi h => by cases h) (Or.inl (by decide)) d_TrustDeskModel_next_241 p_TrustDeskModel_198_13 rfl rfl (fun M316 I317 q318 K319 R320 A321 V322 => ?_)
                            have := V322 15 (by decide)
                            have := V322 16 (by decide)
                            have := V322 18 (by decide)
                            have : rv M316 o0 17 = 2 := tm_rv q318
                            refine mv_goto (tgt := 252) d_TrustDeskModel_next_244 (by decide) ?_
                            exact mv_vret d_TrustDeskModel_next_252 rfl ⟨_, I317, rfl, R320, (rT_of (by omega) (by omega) (by omega)), (by have := R320.1 15 _ _ rfl; have := R320.1 16 _ _ rfl; have := R320.1 19 _ _ rfl; omega)⟩
                          · refine mv_iconst (v := 1) d_TrustDeskModel_next_236 (by decide) ?_
                            refine mv_goto (tgt := 241) d_TrustDeskModel_next_237 (by decide) ?_
                            refine tr_putR (k := 17) I_305 kKR_305 h_q0_305 rfl ⟨_, rfl⟩ (fun _ h => by cases h) rfl (fun lo hi h => by cases h) (Or.inl (by decide)) d_TrustDeskModel_next_241 p_TrustDeskModel_198_13 rfl rfl (fun M323 I324 q325 K326 R327 A328 V329 => ?_)
                            have := V329 15 (by decide)
                            have := V329 16 (by decide)
                            have := V329 18 (by decide)
                            have : rv M323 o0 17 = 1 := tm_rv q325
                            refine mv_goto (tgt := 252) d_TrustDeskModel_next_244 (by decide) ?_
                            exact mv_vret d_TrustDeskModel_next_252 rfl ⟨_, I324, rfl, R327, (rT_of (by omega) (by omega) (by omega)), (by have := R327.1 15 _ _ rfl; have := R327.1 16 _ _ rfl; have := R327.1 19 _ _ rfl; omega)⟩
                        · refine mv_aload_n d_TrustDeskModel_see_8 rfl rfl ?_
                          obtain ⟨a331, q330, t_a331⟩ := tm_atR I_305 h_q0_305 (k := 13) rfl
                          refine tr_getK q330 d_TrustDeskModel_see_9 f_TrustDeskModel_44_13 ?_
                          refine mv_iload_n d_TrustDeskModel_see_12 rfl rfl ?_
                          refine tr_baldR (o := o0) (k := 13) I_305 q330 t_a331 (by decide) d_TrustDeskModel_see_13 (vp_in_iff.mpr (by have := kKR_305.1 15 _ _ rfl; have := kKR_305.1 16 _ _ rfl; have := kKR_305.1 19 _ _ rfl; omega)) (fun v332 e333 => ?_)
                          have := kKR_305.a (k := 13) rfl (v307 : Int32).toNatClampNeg
                          refine mv_goto (tgt := 18) d_TrustDeskModel_see_14 (by decide) ?_
                          refine mv_iret d_TrustDeskModel_see_18 rfl (by first | rfl | decide) ?_
                          refine mv_callS (kc1 := 0) (ks1 := 0) (kc' := 0) (ks' := 0) (As := [.int v332]) (st9 := [.int v332]) d_TrustDeskModel_next_167 lS_TrustDeskModel_211 (mj_enter (by decide) (Nat.le_of_ble_eq_true rfl) ?_) rfl (Nat.le_of_ble_eq_true rfl) (Nat.le_of_ble_eq_true rfl) (Nat.le_of_ble_eq_true rfl) (hst := rfl) (fun _ _ _ h => h)
                          refine mv_iload_n d_TrustDeskModel_isDigit_0 rfl rfl ?_
                          refine mv_bipush (v := 48) d_TrustDeskModel_isDigit_1 (by decide) ?_
                          have := mz_hi v332
                          refine mv_icmp_ltZ (tgt := 16) (a := v332.toInt) (b := 48) d_TrustDeskModel_isDigit_3 (by decide) rfl (by decide) (fun b334 => ?_) (fun b334 => ?_)
                          · refine mv_iconst (v := 0) d_TrustDeskModel_isDigit_16 (by decide) ?_
                            refine mv_iret d_TrustDeskModel_isDigit_17 rfl (by decide) ?_
                            refine mv_if_eq_t (tgt := 222) d_TrustDeskModel_next_170 (by decide) (by decide) ?_
                            refine mv_aload_n d_TrustDeskModel_next_222 rfl rfl ?_
                            refine mv_aload_n d_TrustDeskModel_next_223 rfl rfl ?_
                            refine tr_getK (k := 15) q306 d_TrustDeskModel_next_224 f_TrustDeskModel_192_13 ?_
                            refine mv_aload_n d_TrustDeskModel_next_227 rfl rfl ?_
                            obtain ⟨v336, q335⟩ := tm_atI I_305 h_q0_305 (k := 16) rfl
                            refine tr_getK q335 d_TrustDeskModel_next_228 f_TrustDeskModel_195_13 ?_
                            have := kKR_305.f (k := 16) q335 rfl
                            have := tm_rv q335
                            refine mv_isub d_TrustDeskModel_next_231 ?_
                            refine mv_iconst (v := 4) d_TrustDeskModel_next_232 (by decide) ?_
                            have b337 : (v307 - v336 : Int32).toInt = (v307.toInt - v336.toInt) := mz_sub2 rfl rfl (by have := kKR_305.1 15 _ _ rfl; have := kKR_305.1 16 _ _ rfl; have := kKR_305.1 19 _ _ rfl; omega) (by have := kKR_305.1 15 _ _ rfl; have := kKR_305.1 16 _ _ rfl; have := kKR_305.1 19 _ _ rfl; omega)
                            have := mz_hi (v307 - v336)
                            refine mv_icmp_leZ (tgt := 240) (a := (v307 - v336).toInt) (b := 4) d_TrustDeskModel_next_233 (by decide) rfl (by decide) (fun b338 => ?_) (fun b338 => ?_)
                            · refine mv_iconst (v := 2) d_TrustDeskModel_next_240 (by decide) ?_
                              refine tr_putR (k := 17) I_305 kKR_305 h_q0_305 rfl ⟨_, rfl⟩ (fun _ h => by cases h) rfl (fun lo hi h => by cases h) (Or.inl (by decide)) d_TrustDeskModel_next_241 p_TrustDeskModel_198_13 rfl rfl (fun M339 I340 q341 K342 R343 A344 V345 => ?_)
                              have := V345 15 (by decide)
                              have := V345 16 (by decide)
                              have := V345 18 (by decide)
                              have : rv M339 o0 17 = 2 := tm_rv q341
                              refine mv_goto (tgt := 252) d_TrustDeskModel_next_244 (by decide) ?_
                              exact mv_vret d_TrustDeskModel_next_252 rfl ⟨_, I340, rfl, R343, (rT_of (by omega) (by omega) (by omega)), (by have := R343.1 15 _ _ rfl; have := R343.1 16 _ _ rfl; have := R343.1 19 _ _ rfl; omega)⟩
                            · refine mv_iconst (v := 1) d_TrustDeskModel_next_236 (by decide) ?_
                              refine mv_goto (tgt := 241) d_TrustDeskModel_next_237 (by decide) ?_
                              refine tr_putR (k := 17) I_305 kKR_305 h_q0_305 rfl ⟨_, rfl⟩ (fun _ h => by cases h) rfl (fun lo hi h => by cases h) (Or.inl (by decide)) d_TrustDeskModel_next_241 p_TrustDeskModel_198_13 rfl rfl (fun M346 I347 q348 K349 R350 A351 V352 => ?_)
                              have := V352 15 (by decide)
                              have := V352 16 (by decide)
                              have := V352 18 (by decide)
                              have : rv M346 o0 17 = 1 := tm_rv q348
                              refine mv_goto (tgt := 252) d_TrustDeskModel_next_244 (by decide) ?_
                              exact mv_vret d_TrustDeskModel_next_252 rfl ⟨_, I347, rfl, R350, (rT_of (by omega) (by omega) (by omega)), (by have := R350.1 15 _ _ rfl; have := R350.1 16 _ _ rfl; have := R350.1 19 _ _ rfl; omega)⟩
                          · refine mv_iload_n d_TrustDeskModel_isDigit_6 rfl rfl ?_
                            refine mv_bipush (v := 57) d_TrustDeskModel_isDigit_7 (by decide) ?_
                            have := mz_hi v332
                            refine mv_icmp_gtZ (tgt := 16) (a := v332.toInt) (b := 57) d_TrustDeskModel_isDigit_9 (by decide) rfl (by decide) (fun b353 => ?_) (fun b353 => ?_)
                            · refine mv_iconst (v := 0) d_TrustDeskModel_isDigit_16 (by decide) ?_
                              refine mv_iret d_TrustDeskModel_isDigit_17 rfl (by decide) ?_
                              refine mv_if_eq_t (tgt := 222) d_TrustDeskModel_next_170 (by decide) (by decide) ?_
                              refine mv_aload_n d_TrustDeskModel_next_222 rfl rfl ?_
                              refine mv_aload_n d_TrustDeskModel_next_223 rfl rfl ?_
                              refine tr_getK (k := 15) q306 d_TrustDeskModel_next_224 f_TrustDeskModel_192_13 ?_
                              refine mv_aload_n d_TrustDeskModel_next_227 rfl rfl ?_
                              obtain ⟨v355, q354⟩ := tm_atI I_305 h_q0_305 (k := 16) rfl
                              refine tr_getK q354 d_TrustDeskModel_next_228 f_TrustDeskModel_195_13 ?_
                              have := kKR_305.f (k := 16) q354 rfl
                              have := tm_rv q354
                              refine mv_isub d_TrustDeskModel_next_231 ?_
                              refine mv_iconst (v := 4) d_TrustDeskModel_next_232 (by decide) ?_
                              have b356 : (v307 - v355 : Int32).toInt = (v307.toInt - v355.toInt) := mz_sub2 rfl rfl (by have := kKR_305.1 15 _ _ rfl; have := kKR_305.1 16 _ _ rfl; have := kKR_305.1 19 _ _ rfl; omega) (by have := kKR_305.1 15 _ _ rfl; have := kKR_305.1 16 _ _ rfl; have := kKR_305.1 19 _ _ rfl; omega)
                              have := mz_hi (v307 - v355)
                              refine mv_icmp_leZ (tgt := 240) (a := (v307 - v355).toInt) (b := 4) d_TrustDeskModel_next_233 (by decide) rfl (by decide) (fun b357 => ?_) (fun b357 => ?_)
                              · refine mv_iconst (v := 2) d_TrustDeskModel_next_240 (by decide) ?_
                                refine tr_putR (k := 17) I_305 kKR_305 h_q0_305 rfl ⟨_, rfl⟩ (fun _ h => by cases h) rfl (fun lo hi h => by cases h) (Or.inl (by decide)) d_TrustDeskModel_next_241 p_TrustDeskModel_198_13 rfl rfl (fun M358 I359 q360 K361 R362 A363 V364 => ?_)
                                have := V364 15 (by decide)
                                have := V364 16 (by decide)
                                have := V364 18 (by decide)
                                have : rv M358 o0 17 = 2 := tm_rv q360
                                refine mv_goto (tgt := 252) d_TrustDeskModel_next_244 (by decide) ?_
                                exact mv_vret d_TrustDeskModel_next_252 rfl ⟨_, I359, rfl, R362, (rT_of (by omega) (by omega) (by omega)), (by have := R362.1 15 _ _ rfl; have := R362.1 16 _ _ rfl; have := R362.1 19 _ _ rfl; omega)⟩
                              · refine mv_iconst (v := 1) d_TrustDeskModel_next_236 (by decide) ?_
                                refine mv_goto (tgt := 241) d_TrustDeskModel_next_237 (by decide) ?_
                                refine tr_putR (k := 17) I_305 kKR_305 h_q0_305 rfl ⟨_, rfl⟩ (fun _ h => by cases h) rfl (fun lo hi h => by cases h) (Or.inl (by decide)) d_TrustDeskModel_next_241 p_TrustDeskModel_198_13 rfl rfl (fun M365 I366 q367 K368 R369 A370 V371 => ?_)
                                have := V371 15 (by decide)
                                have := V371 16 (by decide)
                                have := V371 18 (by decide)
                                have : rv M365 o0 17 = 1 := tm_rv q367
                                refine mv_goto (tgt := 252) d_TrustDeskModel_next_244 (by decide) ?_
                                exact mv_vret d_TrustDeskModel_next_252 rfl ⟨_, I366, rfl, R369, (rT_of (by omega) (by omega) (by omega)), (by have := R369.1 15 _ _ rfl; have := R369.1 16 _ _ rfl; have := R369.1 19 _ _ rfl; omega)⟩
                            · refine mv_iconst (v := 1) d_TrustDeskModel_isDigit_12 (by decide) ?_
                              refine mv_goto (tgt := 17) d_TrustDeskModel_isDigit_13 (by decide) ?_
                              refine mv_iret d_TrustDeskModel_isDigit_17 rfl (by decide) ?_
                              refine mv_if_eq_f (tgt := 222) d_TrustDeskModel_next_170 (by decide) (by decide) ?_
                              refine mv_aload_n d_TrustDeskModel_next_173 rfl rfl ?_
                              refine tr_getK (k := 15) q306 d_TrustDeskModel_next_174 f_TrustDeskModel_192_13 ?_
                              refine mv_aload_n d_TrustDeskModel_next_177 rfl rfl ?_
                              obtain ⟨v373, q372⟩ := tm_atI I_305 h_q0_305 (k := 16) rfl
                              refine tr_getK q372 d_TrustDeskModel_next_178 f_TrustDeskModel_195_13 ?_
                              have := kKR_305.f (k := 16) q372 rfl
                              have := tm_rv q372
                              refine mv_isub d_TrustDeskModel_next_181 ?_
                              refine mv_iconst (v := 4) d_TrustDeskModel_next_182 (by decide) ?_
                              have b374 : (v307 - v373 : Int32).toInt = (v307.toInt - v373.toInt) := mz_sub2 rfl rfl (by have := kKR_305.1 15 _ _ rfl; have := kKR_305.1 16 _ _ rfl; have := kKR_305.1 19 _ _ rfl; omega) (by have := kKR_305.1 15 _ _ rfl; have := kKR_305.1 16 _ _ rfl; have := kKR_305.1 19 _ _ rfl; omega)
                              have := mz_hi (v307 - v373)
                              refine mv_icmp_geZ (tgt := 209) (a := (v307 - v373).toInt) (b := 4) d_TrustDeskModel_next_183 (by decide) rfl (by decide) (fun b375 => ?_) (fun b375 => ?_)
                              · refine mv_aload_n d_TrustDeskModel_next_209 rfl rfl ?_
                                refine mv_dup d_TrustDeskModel_next_210 rfl ?_
                                refine tr_getK (k := 15) q306 d_TrustDeskModel_next_211 f_TrustDeskModel_192_13 ?_
                                refine mv_iconst (v := 1) d_TrustDeskModel_next_214 (by decide) ?_
                                refine mv_iadd d_TrustDeskModel_next_215 ?_
                                have b376 : (v307 + 1 : Int32).toInt = (v307.toInt + 1) := mz_add2 rfl (by decide) (by have := kKR_305.1 15 _ _ rfl; have := kKR_305.1 16 _ _ rfl; have := kKR_305.1 19 _ _ rfl; omega) (by have := kKR_305.1 15 _ _ rfl; have := kKR_305.1 16 _ _ rfl; have := kKR_305.1 19 _ _ rfl; omega)
                                refine tr_putR (k := 15) I_305 kKR_305 h_q0_305 rfl ⟨_, rfl⟩ (fun _ h => by cases h) rfl (fun lo hi h => by cases h; have := kKR_305.1 15 _ _ rfl; have := kKR_305.1 16 _ _ rfl; have := kKR_305.1 19 _ _ rfl; exact ⟨by show (0 : Int) ≤ (v307 + 1).toInt; omega, by show (v307 + 1).toInt ≤ (400 : Int); omega⟩) (Or.inl (by decide)) d_TrustDeskModel_next_216 p_TrustDeskModel_192_13 rfl rfl (fun M377 I378 q379 K380 R381 A382 V383 => ?_)
                                have := V383 16 (by decide)
                                have := V383 17 (by decide)
                                have := V383 18 (by decide)
                                have := tm_rv q379
                                refine mv_goto (tgt := 159) d_TrustDeskModel_next_219 (by decide) ?_
                                exact (ih305 T_305 M377 n_305 I378 h_q0_305 (by have := R381.1 15 _ _ rfl; have := R381.1 16 _ _ rfl; have := R381.1 19 _ _ rfl; first | omega | decide) (by have := R381.1 15 _ _ rfl; have := R381.1 16 _ _ rfl; have := R381.1 19 _ _ rfl; first | omega | decide) (by have := R381.1 15 _ _ rfl; have := R381.1 16 _ _ rfl; have := R381.1 19 _ _ rfl; first | omega | decide) (by have := R381.1 15 _ _ rfl; have := R381.1 16 _ _ rfl; have := R381.1 19 _ _ rfl; first | omega | decide) (by have := R381.1 15 _ _ rfl; have := R381.1 16 _ _ rfl; have := R381.1 19 _ _ rfl; first | omega | decide) (by have := R381.1 15 _ _ rfl; have := R381.1 16 _ _ rfl; have := R381.1 19 _ _ rfl; first | omega | decide) R381 (by have := R381.1 15 _ _ rfl; have := R381.1 16 _ _ rfl; have := R381.1 19 _ _ rfl; omega))
                              · refine mv_aload_n d_TrustDeskModel_next_186 rfl rfl ?_
                                refine mv_bipush (v := 10) d_TrustDeskModel_next_187 (by decide) ?_
                                refine mv_aload_n d_TrustDeskModel_next_189 rfl rfl ?_
                                obtain ⟨v385, q384⟩ := tm_atI I_305 h_q0_305 (k := 18) rfl
                                refine tr_getK q384 d_TrustDeskModel_next_190 f_TrustDeskModel_201_13 ?_
                                have := kKR_305.f (k := 18) q384 rfl
                                have := tm_rv q384
                                refine mv_imul d_TrustDeskModel_next_193 ?_
                                refine mv_aload_n d_TrustDeskModel_next_194 rfl rfl ?_
                                refine mv_aload_n d_TrustDeskModel_next_195 rfl rfl ?_
                                refine tr_getK (k := 15) q306 d_TrustDeskModel_next_196 f_TrustDeskModel_192_13 ?_
                                obtain ⟨_, b386, -⟩ := I_305.1 _ _ h_q0_305
                                refine mv_callV (kc1 := 0) (ks1 := 0) (kc' := 0) (ks' := 0) (As := [.int v307]) (st9 := [.int v307, .ref o0, .int (10 * v385), .ref o0]) d_TrustDeskModel_next_199 lV_TrustDeskModel_207 b386 rfl (mj_enter (by decide) (Nat.le_of_ble_eq_true rfl) ?_) rfl (Nat.le_of_ble_eq_true rfl) (Nat.le_of_ble_eq_true rfl) (Nat.le_of_ble_eq_true rfl) (hst := rfl) (fun _ _ _ h => h)
                                refine mv_iload_n d_TrustDeskModel_see_0 rfl rfl ?_
                                refine mv_aload_n d_TrustDeskModel_see_1 rfl rfl ?_
                                refine tr_getK (k := 14) q309 d_TrustDeskModel_see_2 f_TrustDeskModel_189_13 ?_
                                have := mz_hi v307
                                have := mz_hi v310
                                refine mv_icmp_geZ (tgt := 17) (a := v307.toInt) (b := v310.toInt) d_TrustDeskModel_see_5 (by decide) rfl rfl (fun b387 => ?_) (fun b387 => ?_)
                                · refine mv_iconst (v := 0) d_TrustDeskModel_see_17 (by decide) ?_
                                  refine mv_iret d_TrustDeskModel_see_18 rfl (by first | rfl | decide) ?_
                                  refine mv_iadd d_TrustDeskModel_next_202 ?_
                                  refine mv_bipush (v := 48) d_TrustDeskModel_next_203 (by decide) ?_
                                  refine mv_isub d_TrustDeskModel_next_205 ?_
                                  have b388 : (10 * v385 : Int32).toInt = (10 * v385.toInt) := mz_mul2 (by decide) rfl (by have := kKR_305.1 15 _ _ rfl; have := kKR_305.1 16 _ _ rfl; have := kKR_305.1 19 _ _ rfl; omega) (by have := kKR_305.1 15 _ _ rfl; have := kKR_305.1 16 _ _ rfl; have := kKR_305.1 19 _ _ rfl; omega)
                                  have b389 : ((10 * v385) + 0 : Int32).toInt = ((10 * v385.toInt) + 0) := mz_add2 b388 (by decide) (by have := kKR_305.1 15 _ _ rfl; have := kKR_305.1 16 _ _ rfl; have := kKR_305.1 19 _ _ rfl; omega) (by have := kKR_305.1 15 _ _ rfl; have := kKR_305.1 16 _ _ rfl; have := kKR_305.1 19 _ _ rfl; omega)
                                  have b390 : (((10 * v385) + 0) - 48 : Int32).toInt = (((10 * v385.toInt) + 0) - 48) := mz_sub2 b389 (by decide) (by have := kKR_305.1 15 _ _ rfl; have := kKR_305.1 16 _ _ rfl; have := kKR_305.1 19 _ _ rfl; omega) (by have := kKR_305.1 15 _ _ rfl; have := kKR_305.1 16 _ _ rfl; have := kKR_305.1 19 _ _ rfl; omega)
                                  refine tr_putR (k := 18) I_305 kKR_305 h_q0_305 rfl ⟨_, rfl⟩ (fun _ h => by cases h) rfl (fun lo hi h => by cases h; have := kKR_305.1 15 _ _ rfl; have := kKR_305.1 16 _ _ rfl; have := kKR_305.1 19 _ _ rfl; exact ⟨by show ((-128) : Int) ≤ (((10 * v385) + 0) - 48).toInt; omega, by show (((10 * v385) + 0) - 48).toInt ≤ (9999 : Int); omega⟩) (Or.inl (by decide)) d_TrustDeskModel_next_206 p_TrustDeskModel_201_13 rfl rfl (fun M391 I392 q393 K394 R395 A396 V397 => ?_)
                                  have := V397 15 (by decide)
                                  have := V397 16 (by decide)
                                  have := V397 17 (by decide)
                                  have := tm_rv q393
                                  refine mv_aload_n d_TrustDeskModel_next_209 rfl rfl ?_
                                  refine mv_dup d_TrustDeskModel_next_210 rfl ?_
                                  refine tr_getK (k := 15) (K394 _ 13 15 _ rfl q306) d_TrustDeskModel_next_211 f_TrustDeskModel_192_13 ?_
                                  refine mv_iconst (v := 1) d_TrustDeskModel_next_214 (by decide) ?_
                                  refine mv_iadd d_TrustDeskModel_next_215 ?_
                                  have b398 : (v307 + 1 : Int32).toInt = (v307.toInt + 1) := mz_add2 rfl (by decide) (by have := R395.1 15 _ _ rfl; have := R395.1 16 _ _ rfl; have := R395.1 19 _ _ rfl; omega) (by have := R395.1 15 _ _ rfl; have := R395.1 16 _ _ rfl; have := R395.1 19 _ _ rfl; omega)
                                  refine tr_putR (k := 15) I392 R395 h_q0_305 rfl ⟨_, rfl⟩ (fun _ h => by cases h) rfl (fun lo hi h => by cases h; have := R395.1 15 _ _ rfl; have := R395.1 16 _ _ rfl; have := R395.1 19 _ _ rfl; exact ⟨by show (0 : Int) ≤ (v307 + 1).toInt; omega, by show (v307 + 1).toInt ≤ (400 : Int); omega⟩) (Or.inl (by decide)) d_TrustDeskModel_next_216 p_TrustDeskModel_192_13 rfl rfl (fun M399 I400 q401 K402 R403 A404 V405 => ?_)
                                  have := V405 16 (by decide)
                                  have := V405 17 (by decide)
                                  have := V405 18 (by decide)
                                  have := tm_rv q401
                                  refine mv_goto (tgt := 159) d_TrustDeskModel_next_219 (by decide) ?_
                                  exact (ih305 T_305 M399 n_305 I400 h_q0_305 (by have := R403.1 15 _ _ rfl; have := R403.1 16 _ _ rfl; have := R403.1 19 _ _ rfl; first | omega | decide) (by have := R403.1 15 _ _ rfl; have := R403.1 16 _ _ rfl; have := R403.1 19 _ _ rfl; first | omega | decide) (by have := R403.1 15 _ _ rfl; have := R403.1 16 _ _ rfl; have := R403.1 19 _ _ rfl; first | omega | decide) (by have := R403.1 15 _ _ rfl; have := R403.1 16 _ _ rfl; have := R403.1 19 _ _ rfl; first | omega | decide) (by have := R403.1 15 _ _ rfl; have := R403.1 16 _ _ rfl; have := R403.1 19 _ _ rfl; first | omega | decide) (by have := R403.1 15 _ _ rfl; have := R403.1 16 _ _ rfl; have := R403.1 19 _ _ rfl; first | omega | decide) R403 (by have := R403.1 15 _ _ rfl; have := R403.1 16 _ _ rfl; have := R403.1 19 _ _ rfl; omega))
                                · refine mv_aload_n d_TrustDeskModel_see_8 rfl rfl ?_
                                  refine tr_getK (k := 13) q330 d_TrustDeskModel_see_9 f_TrustDeskModel_44_13 ?_
                                  refine mv_iload_n d_TrustDeskModel_see_12 rfl rfl ?_
                                  refine tr_baldR (o := o0) (k := 13) I_305 q330 t_a331 (by decide) d_TrustDeskModel_see_13 (vp_in_iff.mpr (by have := kKR_305.1 15 _ _ rfl; have := kKR_305.1 16 _ _ rfl; have := kKR_305.1 19 _ _ rfl; omega)) (fun v406 e407 => ?_)
                                  have := kKR_305.a (k := 13) rfl (v307 : Int32).toNatClampNeg
                                  refine mv_goto (tgt := 18) d_TrustDeskModel_see_14 (by decide) ?_
                                  refine mv_iret d_TrustDeskModel_see_18 rfl (by first | rfl | decide) ?_
                                  refine mv_iadd d_TrustDeskModel_next_202 ?_
                                  refine mv_bipush (v := 48) d_TrustDeskModel_next_203 (by decide) ?_
                                  refine mv_isub d_TrustDeskModel_next_205 ?_
                                  have b408 : (10 * v385 : Int32).toInt = (10 * v385.toInt) := mz_mul2 (by decide) rfl (by have := kKR_305.1 15 _ _ rfl; have := kKR_305.1 16 _ _ rfl; have := kKR_305.1 19 _ _ rfl; omega) (by have := kKR_305.1 15 _ _ rfl; have := kKR_305.1 16 _ _ rfl; have := kKR_305.1 19 _ _ rfl; omega)
                                  have b409 : ((10 * v385) + v406 : Int32).toInt = ((10 * v385.toInt) + v406.toInt) := mz_add2 b408 rfl (by have := kKR_305.1 15 _ _ rfl; have := kKR_305.1 16 _ _ rfl; have := kKR_305.1 19 _ _ rfl; omega) (by have := kKR_305.1 15 _ _ rfl; have := kKR_305.1 16 _ _ rfl; have := kKR_305.1 19 _ _ rfl; omega)
                                  have b410 : (((10 * v385) + v406) - 48 : Int32).toInt = (((10 * v385.toInt) + v406.toInt) - 48) := mz_sub2 b409 (by decide) (by have := kKR_305.1 15 _ _ rfl; have := kKR_305.1 16 _ _ rfl; have := kKR_305.1 19 _ _ rfl; omega) (by have := kKR_305.1 15 _ _ rfl; have := kKR_305.1 16 _ _ rfl; have := kKR_305.1 19 _ _ rfl; omega)
                                  refine tr_putR (k := 18) I_305 kKR_305 h_q0_305 rfl ⟨_, rfl⟩ (fun _ h => by cases h) rfl (fun lo hi h => by cases h; have := kKR_305.1 15 _ _ rfl; have := kKR_305.1 16 _ _ rfl; have := kKR_305.1 19 _ _ rfl; exact ⟨by show ((-128) : Int) ≤ (((10 * v385) + v406) - 48).toInt; omega, by show (((10 * v385) + v406) - 48).toInt ≤ (9999 : Int); omega⟩) (Or.inl (by decide)) d_TrustDeskModel_next_206 p_TrustDeskModel_201_13 rfl rfl (fun M411 I412 q413 K414 R415 A416 V417 => ?_)
                                  have := V417 15 (by decide)
                                  have := V417 16 (by decide)
                                  have := V417 17 (by decide)
                                  have := tm_rv q413
                                  refine mv_aload_n d_TrustDeskModel_next_209 rfl rfl ?_
                                  refine mv_dup d_TrustDeskModel_next_210 rfl ?_
                                  refine tr_getK (k := 15) (K414 _ 13 15 _ rfl q306) d_TrustDeskModel_next_211 f_TrustDeskModel_192_13 ?_
                                  refine mv_iconst (v := 1) d_TrustDeskModel_next_214 (by decide) ?_
                                  refine mv_iadd d_TrustDeskModel_next_215 ?_
                                  have b418 : (v307 + 1 : Int32).toInt = (v307.toInt + 1) := mz_add2 rfl (by decide) (by have := R415.1 15 _ _ rfl; have := R415.1 16 _ _ rfl; have := R415.1 19 _ _ rfl; omega) (by have := R415.1 15 _ _ rfl; have := R415.1 16 _ _ rfl; have := R415.1 19 _ _ rfl; omega)
                                  refine tr_putR (k := 15) I412 R415 h_q0_305 rfl ⟨_, rfl⟩ (fun _ h => by cases h) rfl (fun lo hi h => by cases h; have := R415.1 15 _ _ rfl; have := R415.1 16 _ _ rfl; have := R415.1 19 _ _ rfl; exact ⟨by show (0 : Int) ≤ (v307 + 1).toInt; omega, by show (v307 + 1).toInt ≤ (400 : Int); omega⟩) (Or.inl (by decide)) d_TrustDeskModel_next_216 p_TrustDeskModel_192_13 rfl rfl (fun M419 I420 q421 K422 R423 A424 V425 => ?_)
                                  have := V425 16 (by decide)
                                  have := V425 17 (by decide)
                                  have := V425 18 (by decide)
                                  have := tm_rv q421
                                  refine mv_goto (tgt := 159) d_TrustDeskModel_next_219 (by decide) ?_
                                  exact (ih305 T_305 M419 n_305 I420 h_q0_305 (by have := R423.1 15 _ _ rfl; have := R423.1 16 _ _ rfl; have := R423.1 19 _ _ rfl; first | omega | decide) (by have := R423.1 15 _ _ rfl; have := R423.1 16 _ _ rfl; have := R423.1 19 _ _ rfl; first | omega | decide) (by have := R423.1 15 _ _ rfl; have := R423.1 16 _ _ rfl; have := R423.1 19 _ _ rfl; first | omega | decide) (by have := R423.1 15 _ _ rfl; have := R423.1 16 _ _ rfl; have := R423.1 19 _ _ rfl; first | omega | decide) (by have := R423.1 15 _ _ rfl; have := R423.1 16 _ _ rfl; have := R423.1 19 _ _ rfl; first | omega | decide) (by have := R423.1 15 _ _ rfl; have := R423.1 16 _ _ rfl; have := R423.1 19 _ _ rfl; first | omega | decide) R423 (by have := R423.1 15 _ _ rfl; have := R423.1 16 _ _ rfl; have := R423.1 19 _ _ rfl; omega))
                    exact mv_less (Nat.zero_le _) (Nat.zero_le _) (L159_305 4294967296 T_1 M298 n_1 I299 h_q0_1 (by have := R302.1 15 _ _ rfl; have := R302.1 16 _ _ rfl; have := R302.1 19 _ _ rfl; first | omega | decide) (by have := R302.1 15 _ _ rfl; have := R302.1 16 _ _ rfl; have := R302.1 19 _ _ rfl; first | omega | decide) (by have := R302.1 15 _ _ rfl; have := R302.1 16 _ _ rfl; have := R302.1 19 _ _ rfl; first | omega | decide) (by have := R302.1 15 _ _ rfl; have := R302.1 16 _ _ rfl; have := R302.1 19 _ _ rfl; first | omega | decide) (by have := R302.1 15 _ _ rfl; have := R302.1 16 _ _ rfl; have := R302.1 19 _ _ rfl; first | omega | decide) (by have := R302.1 15 _ _ rfl; have := R302.1 16 _ _ rfl; have := R302.1 19 _ _ rfl; first | omega | decide) R302 (by have := R302.1 15 _ _ rfl; have := R302.1 16 _ _ rfl; have := R302.1 19 _ _ rfl; omega))
              · refine mv_iload_n d_TrustDeskModel_isSmall_6 rfl rfl ?_
                refine mv_bipush (v := 122) d_TrustDeskModel_isSmall_7 (by decide) ?_
                have := mz_hi v263
                refine mv_icmp_gtZ (tgt := 16) (a := v263.toInt) (b := 122) d_TrustDeskModel_isSmall_9 (by decide) rfl (by decide) (fun b426 => ?_) (fun b426 => ?_)
                · refine mv_iconst (v := 0) d_TrustDeskModel_isSmall_16 (by decide) ?_
                  refine mv_iret d_TrustDeskModel_isSmall_17 rfl (by decide) ?_
                  refine mv_if_eq_t (tgt := 144) d_TrustDeskModel_next_106 (by decide) (by decide) ?_
                  refine mv_iload_n d_TrustDeskModel_next_144 rfl rfl ?_
                  refine mv_callS (kc1 := 0) (ks1 := 0) (kc' := 0) (ks' := 0) (As := [.int v263]) (st9 := [.int v263]) d_TrustDeskModel_next_145 lS_TrustDeskModel_211 (mj_enter (by decide) (Nat.le_of_ble_eq_true rfl) ?_) rfl (Nat.le_of_ble_eq_true rfl) (Nat.le_of_ble_eq_true rfl) (Nat.le_of_ble_eq_true rfl) (hst := rfl) (fun _ _ _ h => h)
                  refine mv_iload_n d_TrustDeskModel_isDigit_0 rfl rfl ?_
                  refine mv_bipush (v := 48) d_TrustDeskModel_isDigit_1 (by decide) ?_
                  have := mz_hi v263
                  refine mv_icmp_ltZ (tgt := 16) (a := v263.toInt) (b := 48) d_TrustDeskModel_isDigit_3 (by decide) rfl (by decide) (fun b427 => absurd b427 (by omega)) (fun b427 => ?_)
                  refine mv_iload_n d_TrustDeskModel_isDigit_6 rfl rfl ?_
                  refine mv_bipush (v := 57) d_TrustDeskModel_isDigit_7 (by decide) ?_
                  have := mz_hi v263
                  refine mv_icmp_gtZ (tgt := 16) (a := v263.toInt) (b := 57) d_TrustDeskModel_isDigit_9 (by decide) rfl (by decide) (fun b428 => ?_) (fun b428 => absurd b428 (by omega))
                  refine mv_iconst (v := 0) d_TrustDeskModel_isDigit_16 (by decide) ?_
                  refine mv_iret d_TrustDeskModel_isDigit_17 rfl (by decide) ?_
                  refine mv_if_eq_t (tgt := 247) d_TrustDeskModel_next_148 (by decide) (by decide) ?_
                  refine mv_aload_n d_TrustDeskModel_next_247 rfl rfl ?_
                  refine mv_iconst (v := 4) d_TrustDeskModel_next_248 (by decide) ?_
                  refine tr_putR (k := 17) I274 R277 h_q0_1 rfl ⟨_, rfl⟩ (fun _ h => by cases h) rfl (fun lo hi h => by cases h) (Or.inl (by decide)) d_TrustDeskModel_next_249 p_TrustDeskModel_198_13 rfl rfl (fun M429 I430 q431 K432 R433 A434 V435 => ?_)
                  have := V435 15 (by decide)
                  have := V435 16 (by decide)
                  have := V435 18 (by decide)
                  have : rv M429 o0 17 = 4 := tm_rv q431
                  exact mv_vret d_TrustDeskModel_next_252 rfl ⟨_, I430, rfl, R433, (rT_of (by omega) (by omega) (by omega)), (by have := R433.1 15 _ _ rfl; have := R433.1 16 _ _ rfl; have := R433.1 19 _ _ rfl; omega)⟩
                · refine mv_iconst (v := 1) d_TrustDeskModel_isSmall_12 (by decide) ?_
                  refine mv_goto (tgt := 17) d_TrustDeskModel_isSmall_13 (by decide) ?_
                  refine mv_iret d_TrustDeskModel_isSmall_17 rfl (by decide) ?_
                  refine mv_if_eq_f (tgt := 144) d_TrustDeskModel_next_106 (by decide) (by decide) ?_
                  have L109_436 : ∀ (k : Nat) (T_436 : tm_H) (M_436 : mj_M) (n_436 : Nat), tm_I tm_FT (tm_in w_TrustDeskModel_next_x) x9 T0 M0 n0 T_436 M_436 n_436 → T_436 o0 = some (0, 13, 0) → rv M0 o0 15 ≤ rv M_436 o0 16 → rv M_436 o0 16 < rv M_436 o0 15 → (rI M_436 o0) → 401 - rv M_436 o0 15 < (k : Int) → mj_V g l kY_TrustDeskModel_next (d + 1) 109 [(1, .int v263), (0, .ref o0)] [] M_436 n_436 0 0 (tm_Q tm_FT (tm_in w_TrustDeskModel_next_x) x9 T0 M0 n0 (fun r _ M => r = none ∧ rI M o0 ∧ (rT M o0) ∧ (rv M0 o0 15 ≤ rv M o0 16))) := by
                    intro k436
                    induction k436 with
                    | zero =>
                      intro T_436 M_436 n_436 I_436 h_q0_436 iv0_436 iv1_436 kKR_436 hk436
                      have := kKR_436.1 15 _ _ rfl
                      have := kKR_436.1 16 _ _ rfl
                      have := kKR_436.1 19 _ _ rfl
                      exfalso; omega
                    | succ k436 ih436 =>
                      intro T_436 M_436 n_436 I_436 h_q0_436 iv0_436 iv1_436 kKR_436 hk436
                      refine mv_aload_n d_TrustDeskModel_next_109 rfl rfl ?_
                      refine mv_aload_n d_TrustDeskModel_next_110 rfl rfl ?_
                      obtain ⟨v438, q437⟩ := tm_atI I_436 h_q0_436 (k := 15) rfl
                      refine tr_getK q437 d_TrustDeskModel_next_111 f_TrustDeskModel_192_13 ?_
                      have := kKR_436.f (k := 15) q437 rfl
                      have := tm_rv q437
                      obtain ⟨_, b439, -⟩ := I_436.1 _ _ h_q0_436
                      refine mv_callV (kc1 := 0) (ks1 := 0) (kc' := 0) (ks' := 0) (As := [.int v438]) (st9 := [.int v438, .ref o0]) d_TrustDeskModel_next_114 lV_TrustDeskModel_207 b439 rfl (mj_enter (by decide) (Nat.le_of_ble_eq_true rfl) ?_) rfl (Nat.le_of_ble_eq_true rfl) (Nat.le_of_ble_eq_true rfl) (Nat.le_of_ble_eq_true rfl) (hst := rfl) (fun _ _ _ h => h)
                      refine mv_iload_n d_TrustDeskModel_see_0 rfl rfl ?_
                      refine mv_aload_n d_TrustDeskModel_see_1 rfl rfl ?_
                      obtain ⟨v441, q440⟩ := tm_atI I_436 h_q0_436 (k := 14) rfl
                      refine tr_getK q440 d_TrustDeskModel_see_2 f_TrustDeskModel_189_13 ?_
                      have := kKR_436.f (k := 14) q440 rfl
                      have := mz_hi v438
                      have := mz_hi v441
                      refine mv_icmp_geZ (tgt := 17) (a := v438.toInt) (b := v441.toInt) d_TrustDeskModel_see_5 (by decide) rfl rfl (fun b442 => ?_) (fun b442 => ?_)
                      · refine mv_iconst (v := 0) d_TrustDeskModel_see_17 (by decide) ?_
                        refine mv_iret d_TrustDeskModel_see_18 rfl (by first | rfl | decide) ?_
                        refine mv_callS (kc1 := 0) (ks1 := 0) (kc' := 0) (ks' := 0) (As := [.int 0]) (st9 := [.int 0]) d_TrustDeskModel_next_117 lS_TrustDeskModel_204 (mj_enter (by decide) (Nat.le_of_ble_eq_true rfl) ?_) rfl (Nat.le_of_ble_eq_true rfl) (Nat.le_of_ble_eq_true rfl) (Nat.le_of_ble_eq_true rfl) (hst := rfl) (fun _ _ _ h => h)
                        refine mv_iload_n d_TrustDeskModel_isSmall_0 rfl rfl ?_
                        refine mv_bipush (v := 97) d_TrustDeskModel_isSmall_1 (by decide) ?_
                        refine mv_icmp_lt_t (tgt := 16) d_TrustDeskModel_isSmall_3 (by decide) (by decide) ?_
                        refine mv_iconst (v := 0) d_TrustDeskModel_isSmall_16 (by decide) ?_
                        refine mv_iret d_TrustDeskModel_isSmall_17 rfl (by decide) ?_
                        refine mv_if_eq_t (tgt := 136) d_TrustDeskModel_next_120 (by decide) (by decide) ?_
                        refine mv_aload_n d_TrustDeskModel_next_136 rfl rfl ?_
                        refine mv_iconst (v := 3) d_TrustDeskModel_next_137 (by decide) ?_
                        refine tr_putR (k := 17) I_436 kKR_436 h_q0_436 rfl ⟨_, rfl⟩ (fun _ h => by cases h) rfl (fun lo hi h => by cases h) (Or.inl (by decide)) d_TrustDeskModel_next_138 p_TrustDeskModel_198_13 rfl rfl (fun M443 I444 q445 K446 R447 A448 V449 => ?_)
                        have := V449 15 (by decide)
                        have := V449 16 (by decide)
                        have := V449 18 (by decide)
                        have : rv M443 o0 17 = 3 := tm_rv q445
                        refine mv_goto (tgt := 252) d_TrustDeskModel_next_141 (by decide) ?_
                        exact mv_vret d_TrustDeskModel_next_252 rfl ⟨_, I444, rfl, R447, (rT_of (by omega) (by omega) (by omega)), (by have := R447.1 15 _ _ rfl; have := R447.1 16 _ _ rfl; have := R447.1 19 _ _ rfl; omega)⟩
                      · refine mv_aload_n d_TrustDeskModel_see_8 rfl rfl ?_
                        obtain ⟨a451, q450, t_a451⟩ := tm_atR I_436 h_q0_436 (k := 13) rfl
                        refine tr_getK q450 d_TrustDeskModel_see_9 f_TrustDeskModel_44_13 ?_
                        refine mv_iload_n d_TrustDeskModel_see_12 rfl rfl ?_
                        refine tr_baldR (o := o0) (k := 13) I_436 q450 t_a451 (by decide) d_TrustDeskModel_see_13 (vp_in_iff.mpr (by have := kKR_436.1 15 _ _ rfl; have := kKR_436.1 16 _ _ rfl; have := kKR_436.1 19 _ _ rfl; omega)) (fun v452 e453 => ?_)
                        have := kKR_436.a (k := 13) rfl (v438 : Int32).toNatClampNeg
                        refine mv_goto (tgt := 18) d_TrustDeskModel_see_14 (by decide) ?_
                        refine mv_iret d_TrustDeskModel_see_18 rfl (by first | rfl | decide) ?_
                        refine mv_callS (kc1 := 0) (ks1 := 0) (kc' := 0) (ks' := 0) (As := [.int v452]) (st9 := [.int v452]) d_TrustDeskModel_next_117 lS_TrustDeskModel_204 (mj_enter (by decide) (Nat.le_of_ble_eq_true rfl) ?_) rfl (Nat.le_of_ble_eq_true rfl) (Nat.le_of_ble_eq_true rfl) (Nat.le_of_ble_eq_true rfl) (hst := rfl) (fun _ _ _ h => h)
                        refine mv_iload_n d_TrustDeskModel_isSmall_0 rfl rfl ?_
                        refine mv_bipush (v := 97) d_TrustDeskModel_isSmall_1 (by decide) ?_
                        have := mz_hi v452
                        refine mv_icmp_ltZ (tgt := 16) (a := v452.toInt) (b := 97) d_TrustDeskModel_isSmall_3 (by decide) rfl (by decide) (fun b454 => ?_) (fun b454 => ?_)
                        · refine mv_iconst (v := 0) d_TrustDeskModel_isSmall_16 (by decide) ?_
                          refine mv_iret d_TrustDeskModel_isSmall_17 rfl (by decide) ?_
                          refine mv_if_eq_t (tgt := 136) d_TrustDeskModel_next_120 (by decide) (by decide) ?_
                          refine mv_aload_n d_TrustDeskModel_next_136 rfl rfl ?_
                          refine mv_iconst (v := 3) d_TrustDeskModel_next_137 (by decide) ?_
                          refine tr_putR (k := 17) I_436 kKR_436 h_q0_436 rfl ⟨_, rfl⟩ (fun _ h => by cases h) rfl (fun lo hi h => by cases h) (Or.inl (by decide)) d_TrustDeskModel_next_138 p_TrustDeskModel_198_13 rfl rfl (fun M455 I456 q457 K458 R459 A460 V461 => ?_)
                          have := V461 15 (by decide)
                          have := V461 16 (by decide)
                          have := V461 18 (by decide)
                          have : rv M455 o0 17 = 3 := tm_rv q457
                          refine mv_goto (tgt := 252) d_TrustDeskModel_next_141 (by decide) ?_
                          exact mv_vret d_TrustDeskModel_next_252 rfl ⟨_, I456, rfl, R459, (rT_of (by omega) (by omega) (by omega)), (by have := R459.1 15 _ _ rfl; have := R459.1 16 _ _ rfl; have := R459.1 19 _ _ rfl; omega)⟩
                        · refine mv_iload_n d_TrustDeskModel_isSmall_6 rfl rfl ?_
                          refine mv_bipush (v := 122) d_TrustDeskModel_isSmall_7 (by decide) ?_
                          have := mz_hi v452
                          refine mv_icmp_gtZ (tgt := 16) (a := v452.toInt) (b := 122) d_TrustDeskModel_isSmall_9 (by decide) rfl (by decide) (fun b462 => ?_) (fun b462 => ?_)
                          · refine mv_iconst (v := 0) d_TrustDeskModel_isSmall_16 (by decide) ?_
                            refine mv_iret d_TrustDeskModel_isSmall_17 rfl (by decide) ?_
                            refine mv_if_eq_t (tgt := 136) d_TrustDeskModel_next_120 (by decide) (by decide) ?_
                            refine mv_aload_n d_TrustDeskModel_next_136 rfl rfl ?_
                            refine mv_iconst (v := 3) d_TrustDeskModel_next_137 (by decide) ?_
                            refine tr_putR (k := 17) I_436 kKR_436 h_q0_436 rfl ⟨_, rfl⟩ (fun _ h => by cases h) rfl (fun lo hi h => by cases h) (Or.inl (by decide)) d_TrustDeskModel_next_138 p_TrustDeskModel_198_13 rfl rfl (fun M463 I464 q465 K466 R467 A468 V469 => ?_)
                            have := V469 15 (by decide)
                            have := V469 16 (by decide)
                            have := V469 18 (by decide)
                            have : rv M463 o0 17 = 3 := tm_rv q465
                            refine mv_goto (tgt := 252) d_TrustDeskModel_next_141 (by decide) ?_
                            exact mv_vret d_TrustDeskModel_next_252 rfl ⟨_, I464, rfl, R467, (rT_of (by omega) (by omega) (by omega)), (by have := R467.1 15 _ _ rfl; have := R467.1 16 _ _ rfl; have := R467.1 19 _ _ rfl; omega)⟩
                          · refine mv_iconst (v := 1) d_TrustDeskModel_isSmall_12 (by decide) ?_
                            refine mv_goto (tgt := 17) d_TrustDeskModel_isSmall_13 (by decide) ?_
                            refine mv_iret d_TrustDeskModel_isSmall_17 rfl (by decide) ?_
                            refine mv_if_eq_f (tgt := 136) d_TrustDeskModel_next_120 (by decide) (by decide) ?_
                            refine mv_aload_n d_TrustDeskModel_next_123 rfl rfl ?_
                            refine mv_dup d_TrustDeskModel_next_124 rfl ?_
                            refine tr_getK (k := 15) q437 d_TrustDeskModel_next_125 f_TrustDeskModel_192_13 ?_
                            refine mv_iconst (v := 1) d_TrustDeskModel_next_128 (by decide) ?_
                            refine mv_iadd d_TrustDeskModel_next_129 ?_
                            have b470 : (v438 + 1 : Int32).toInt = (v438.toInt + 1) := mz_add2 rfl (by decide) (by have := kKR_436.1 15 _ _ rfl; have := kKR_436.1 16 _ _ rfl; have := kKR_436.1 19 _ _ rfl; omega) (by have := kKR_436.1 15 _ _ rfl; have := kKR_436.1 16 _ _ rfl; have := kKR_436.1 19 _ _ rfl; omega)
                            refine tr_putR (k := 15) I_436 kKR_436 h_q0_436 rfl ⟨_, rfl⟩ (fun _ h => by cases h) rfl (fun lo hi h => by cases h; have := kKR_436.1 15 _ _ rfl; have := kKR_436.1 16 _ _ rfl; have := kKR_436.1 19 _ _ rfl; exact ⟨by show (0 : Int) ≤ (v438 + 1).toInt; omega, by show (v438 + 1).toInt ≤ (400 : Int); omega⟩) (Or.inl (by decide)) d_TrustDeskModel_next_130 p_TrustDeskModel_192_13 rfl rfl (fun M471 I472 q473 K474 R475 A476 V477 => ?_)
                            have := V477 16 (by decide)
                            have := V477 17 (by decide)
                            have := V477 18 (by decide)
                            have := tm_rv q473
                            refine mv_goto (tgt := 109) d_TrustDeskModel_next_133 (by decide) ?_
                            exact (ih436 T_436 M471 n_436 I472 h_q0_436 (by have := R475.1 15 _ _ rfl; have := R475.1 16 _ _ rfl; have := R475.1 19 _ _ rfl; first | omega | decide) (by have := R475.1 15 _ _ rfl; have := R475.1 16 _ _ rfl; have := R475.1 19 _ _ rfl; first | omega | decide) R475 (by have := R475.1 15 _ _ rfl; have := R475.1 16 _ _ rfl; have := R475.1 19 _ _ rfl; omega))
                  exact mv_less (Nat.zero_le _) (Nat.zero_le _) (L109_436 4294967296 T_1 M273 n_1 I274 h_q0_1 (by have := R277.1 15 _ _ rfl; have := R277.1 16 _ _ rfl; have := R277.1 19 _ _ rfl; first | omega | decide) (by have := R277.1 15 _ _ rfl; have := R277.1 16 _ _ rfl; have := R277.1 19 _ _ rfl; first | omega | decide) R277 (by have := R277.1 15 _ _ rfl; have := R277.1 16 _ _ rfl; have := R277.1 19 _ _ rfl; omega))
            · refine mv_aload_n d_TrustDeskModel_next_71 rfl rfl ?_
              refine mv_iconst (v := 0) d_TrustDeskModel_next_72 (by decide) ?_
              refine tr_putR (k := 17) I256 R259 h_q0_1 rfl ⟨_, rfl⟩ (fun _ h => by cases h) rfl (fun lo hi h => by cases h) (Or.inl (by decide)) d_TrustDeskModel_next_73 p_TrustDeskModel_198_13 rfl rfl (fun M478 I479 q480 K481 R482 A483 V484 => ?_)
              have := V484 15 (by decide)
              have := V484 16 (by decide)
              have := V484 18 (by decide)
              have : rv M478 o0 17 = 0 := tm_rv q480
              exact mv_vret d_TrustDeskModel_next_76 rfl ⟨_, I479, rfl, R482, (rT_of (by omega) (by omega) (by omega)), (by have := R482.1 15 _ _ rfl; have := R482.1 16 _ _ rfl; have := R482.1 19 _ _ rfl; omega)⟩
          · refine mv_aload_n d_TrustDeskModel_next_39 rfl rfl ?_
            refine mv_dup d_TrustDeskModel_next_40 rfl ?_
            refine tr_getK (k := 15) q2 d_TrustDeskModel_next_41 f_TrustDeskModel_192_13 ?_
            refine mv_iconst (v := 1) d_TrustDeskModel_next_44 (by decide) ?_
            refine mv_iadd d_TrustDeskModel_next_45 ?_
            have b485 : (v3 + 1 : Int32).toInt = (v3.toInt + 1) := mz_add2 rfl (by decide) (by have := kKR_1.1 15 _ _ rfl; have := kKR_1.1 16 _ _ rfl; have := kKR_1.1 19 _ _ rfl; omega) (by have := kKR_1.1 15 _ _ rfl; have := kKR_1.1 16 _ _ rfl; have := kKR_1.1 19 _ _ rfl; omega)
            refine tr_putR (k := 15) I_1 kKR_1 h_q0_1 rfl ⟨_, rfl⟩ (fun _ h => by cases h) rfl (fun lo hi h => by cases h; have := kKR_1.1 15 _ _ rfl; have := kKR_1.1 16 _ _ rfl; have := kKR_1.1 19 _ _ rfl; exact ⟨by show (0 : Int) ≤ (v3 + 1).toInt; omega, by show (v3 + 1).toInt ≤ (400 : Int); omega⟩) (Or.inl (by decide)) d_TrustDeskModel_next_46 p_TrustDeskModel_192_13 rfl rfl (fun M486 I487 q488 K489 R490 A491 V492 => ?_)
            have := V492 16 (by decide)
            have := V492 17 (by decide)
            have := V492 18 (by decide)
            have := tm_rv q488
            refine mv_goto (tgt := 0) d_TrustDeskModel_next_49 (by decide) ?_
            exact (ih1 T_1 M486 n_1 I487 h_q0_1 (by have := R490.1 15 _ _ rfl; have := R490.1 16 _ _ rfl; have := R490.1 19 _ _ rfl; first | omega | decide) R490 (by have := R490.1 15 _ _ rfl; have := R490.1 16 _ _ rfl; have := R490.1 19 _ _ rfl; omega))
  exact mv_less (Nat.zero_le _) (Nat.zero_le _) (L0_1 4294967296 T0 M0 n0 I0 h_o0 (by have := yR.1 15 _ _ rfl; have := yR.1 16 _ _ rfl; have := yR.1 19 _ _ rfl; first | omega | decide) yR (by have := yR.1 15 _ _ rfl; have := yR.1 16 _ _ rfl; have := yR.1 19 _ _ rfl; omega))
theorem lV_TrustDeskModel_237 : mj_lV "TrustDeskModel" 237 kY_TrustDeskModel_next 0 := ⟨⟨(mj_in1 (List.mem_of_getElem? (i := 1648) (by decide +kernel)) rfl), (mj_in1 (List.mem_of_getElem? (i := 10) (by decide +kernel)) rfl), (mj_in1 (List.mem_of_getElem? (i := 1651) (by decide +kernel)) rfl), by decide, rfl, by decide⟩, (mj_in1 (List.mem_of_getElem? (i := 1650) (by decide +kernel)) rfl), (mj_in (List.mem_append_left _ (List.mem_of_getElem? (i := 81) (by decide +kernel))) rfl)⟩
theorem d_TrustDeskModel_opens_35 : decode kY_TrustDeskModel_opens.2.1 35 = .ok (.return_, 1) := by decide +kernel
theorem d_TrustDeskModel_opens_8 : decode kY_TrustDeskModel_opens.2.1 8 = .ok (.aload_n 0, 1) := by decide +kernel
theorem d_TrustDeskModel_opens_9 : decode kY_TrustDeskModel_opens.2.1 9 = .ok (.iconst 4, 1) := by decide +kernel
theorem d_TrustDeskModel_opens_10 : decode kY_TrustDeskModel_opens.2.1 10 = .ok (.invokevirtual 240, 3) := by decide +kernel
def w_TrustDeskModel_opens_x : List Nat := [1315, 1316, 1317, 1318, 1319, 1320, 1322]
theorem tc_TrustDeskModel_opens_x {g : mj_G} {l : Launch} {d : Nat} {T0 : tm_H} {M0 : mj_M} {n0 x9 : Nat} {o0 : Nat} (h_o0 : T0 o0 = some (0, 13, 0)) (yR : rI M0 o0) (yT : rT M0 o0) (yS : rv M0 o0 19 = 0 → ra M0 o0 5 44 ≤ rv M0 o0 16) (yo : rv M0 o0 17 ≠ 0) (yL : rv M0 o0 19 ≠ 0 ∨ (0 ≤ rv M0 o0 22 ∧ rv M0 o0 22 ≤ 4)) (I0 : tm_I tm_FT (tm_in w_TrustDeskModel_opens_x) x9 T0 M0 n0 T0 M0 n0) : mj_Met g l kY_TrustDeskModel_opens (d + 2) [.ref o0] M0 n0 0 0 (tm_Q tm_FT (tm_in w_TrustDeskModel_opens_x) x9 T0 M0 n0 (fun r _ M => r = none ∧ rI M o0 ∧ (rE M0 M o0 0 1) ∧ (rv M o0 19 = 0 → rv M o0 22 = rv M0 o0 22 + 1 ∧ rv M0 o0 22 ≠ 4))) := by
  refine mj_enter (by decide) (Nat.le_of_ble_eq_true rfl) ?_
  have yE0 := rE.rf yT
  refine mv_aload_n d_TrustDeskModel_opens_0 rfl rfl ?_
  obtain ⟨v2, q1⟩ := tm_atI I0 h_o0 (k := 22) rfl
  refine tr_getK q1 d_TrustDeskModel_opens_1 f_TrustDeskModel_276_13 ?_
  have := tm_rv q1
  refine mv_iconst (v := 4) d_TrustDeskModel_opens_4 (by decide) ?_
  have := mz_hi v2
  refine mv_icmp_neZ (tgt := 13) (a := v2.toInt) (b := 4) d_TrustDeskModel_opens_5 (by decide) rfl (by decide) (fun b3 => ?_) (fun b3 => ?_)
  · refine mv_aload_n d_TrustDeskModel_opens_13 rfl rfl ?_
    obtain ⟨_, b4, -⟩ := I0.1 _ _ h_o0
    refine mv_callV (kc1 := 0) (ks1 := 0) (kc' := 0) (ks' := 0) (As := []) (st9 := [.ref o0]) d_TrustDeskModel_opens_14 lV_TrustDeskModel_230 b4 rfl (mj_enter (by decide) (Nat.le_of_ble_eq_true rfl) ?_) rfl (Nat.le_of_ble_eq_true rfl) (Nat.le_of_ble_eq_true rfl) (Nat.le_of_ble_eq_true rfl) (hst := rfl) (fun _ _ _ h => h)
    refine mv_aload_n d_TrustDeskModel_isWell_0 rfl rfl ?_
    obtain ⟨v6, q5⟩ := tm_atI I0 h_o0 (k := 19) rfl
    refine tr_getK q5 d_TrustDeskModel_isWell_1 f_TrustDeskModel_224_13 ?_
    have := yR.f (k := 19) q5 rfl
    have := tm_rv q5
    have := mz_hi v6
    refine mv_if_neZ (tgt := 11) (a := v6.toInt) d_TrustDeskModel_isWell_4 (by decide) rfl (fun b7 => ?_) (fun b7 => ?_)
    · refine mv_iconst (v := 0) d_TrustDeskModel_isWell_11 (by decide) ?_
      refine mv_iret d_TrustDeskModel_isWell_12 rfl (by decide) ?_
      refine mv_if_ne_f (tgt := 21) d_TrustDeskModel_opens_17 (by decide) (by decide) ?_
      exact mv_vret d_TrustDeskModel_opens_20 rfl ⟨_, I0, rfl, yR, yE0.vac (by have := yR.1 15 _ _ rfl; have := yR.1 16 _ _ rfl; have := yR.1 19 _ _ rfl; have := yE0.f yS; omega) 0 1, (by have := yR.1 15 _ _ rfl; have := yR.1 16 _ _ rfl; have := yR.1 19 _ _ rfl; have := yE0.f yS; omega)⟩
    · refine mv_iconst (v := 1) d_TrustDeskModel_isWell_7 (by decide) ?_
      refine mv_goto (tgt := 12) d_TrustDeskModel_isWell_8 (by decide) ?_
      refine mv_iret d_TrustDeskModel_isWell_12 rfl (by decide) ?_
      refine mv_if_ne_t (tgt := 21) d_TrustDeskModel_opens_17 (by decide) (by decide) ?_
      refine mv_aload_n d_TrustDeskModel_opens_21 rfl rfl ?_
      refine mv_dup d_TrustDeskModel_opens_22 rfl ?_
      refine tr_getK (k := 22) q1 d_TrustDeskModel_opens_23 f_TrustDeskModel_276_13 ?_
      refine mv_iconst (v := 1) d_TrustDeskModel_opens_26 (by decide) ?_
      refine mv_iadd d_TrustDeskModel_opens_27 ?_
      have b8 : (v2 + 1 : Int32).toInt = (v2.toInt + 1) := mz_add2 rfl (by decide) (by have := yR.1 15 _ _ rfl; have := yR.1 16 _ _ rfl; have := yR.1 19 _ _ rfl; have := yE0.f yS; omega) (by have := yR.1 15 _ _ rfl; have := yR.1 16 _ _ rfl; have := yR.1 19 _ _ rfl; have := yE0.f yS; omega)
      refine tr_putR (k := 22) I0 yR h_o0 rfl ⟨_, rfl⟩ (fun _ h => by cases h) rfl (fun lo hi h => by cases h) (Or.inl (by decide)) d_TrustDeskModel_opens_28 p_TrustDeskModel_276_13 rfl rfl (fun M9 I10 q11 K12 R13 A14 V15 => ?_)
      have := V15 16 (by decide)
      have := V15 17 (by decide)
      have := V15 19 (by decide)
      have := tm_rv q11
      have E16 : rE M0 M9 o0 0 0 := yE0.same (fun k h1 h2 => V15 k (by omega)) (fun k h1 h2 => A14 k (by omega))
      refine mv_aload_n d_TrustDeskModel_opens_31 rfl rfl ?_
      obtain ⟨_, b23, -⟩ := I10.1 _ _ h_o0
      refine mv_callV (kc' := 0) (ks' := 0) (As := []) (st9 := [.ref o0]) d_TrustDeskModel_opens_32 lV_TrustDeskModel_237 b23 rfl (tc_TrustDeskModel_next_x (d := d) (x9 := x9) (o0 := o0) h_o0 R13 I10.start) rfl (Nat.le_of_ble_eq_true rfl) (Nat.le_of_ble_eq_true rfl) (Nat.le_of_ble_eq_true rfl) (hst := rfl) (fun b17r M18 n19 b17 => ?_)
      obtain ⟨T20, J21, rfl, R24, f25, f26⟩ := b17
      have I22 := I10.call J21 (tm_sub (by decide)) (Or.inl rfl)
      have t27 := J21.up h_o0
      have := (rv_c I10 J21 (I10.up h_o0) (k := 19) rfl)
      have := (rv_c I10 J21 (I10.up h_o0) (k := 22) rfl)
      have h29 : rv M9 o0 16 + 1 ≤ rv M9 o0 15 := (by have := R13.1 15 _ _ rfl; have := R13.1 16 _ _ rfl; have := R13.1 19 _ _ rfl; have := E16.f yS; omega)
      have E28 : rE M0 M18 o0 0 1 := E16.next f25 f26 (rv_c I10 J21 (I10.up h_o0) (k := 19) rfl) (rE_ha I10 J21 (I10.up h_o0) (by decide)) (e := 1) h29 (by decide)
      have q30 := J21.keep h_o0 (by decide) (K12 _ 13 19 _ rfl q5)
      have q31 := J21.keep h_o0 (by decide) q11
      exact mv_vret d_TrustDeskModel_opens_35 rfl ⟨_, I22, rfl, R24, E28, (by have := R24.1 15 _ _ rfl; have := R24.1 16 _ _ rfl; have := R24.1 19 _ _ rfl; have := E28.f yS; omega)⟩
  · refine mv_aload_n d_TrustDeskModel_opens_8 rfl rfl ?_
    refine mv_iconst (v := 4) d_TrustDeskModel_opens_9 (by decide) ?_
    obtain ⟨_, b38, -⟩ := I0.1 _ _ h_o0
    refine mv_callV (kc' := 0) (ks' := 0) (As := [.int 4]) (st9 := [.int 4, .ref o0]) d_TrustDeskModel_opens_10 lV_TrustDeskModel_240 b38 rfl (tc_TrustDeskModel_fails_x (d := (d + 1)) (x9 := x9) (o0 := o0) (x1 := 4) h_o0 yR (by decide) I0.start) rfl (Nat.le_of_ble_eq_true rfl) (Nat.le_of_ble_eq_true rfl) (Nat.le_of_ble_eq_true rfl) (hst := rfl) (fun b32r M33 n34 b32 => ?_)
    obtain ⟨T35, J36, rfl, R39, f40⟩ := b32
    have I37 := I0.call J36 (tm_sub (by decide)) (Or.inl rfl)
    have t41 := J36.up h_o0
    have := (rv_c I0 J36 (I0.up h_o0) (k := 16) rfl)
    have := (rv_c I0 J36 (I0.up h_o0) (k := 17) rfl)
    have := (rv_c I0 J36 (I0.up h_o0) (k := 22) rfl)
    have E42 : rE M0 M33 o0 0 0 := yE0.fails (rE_hv I0 J36 (I0.up h_o0) 15 18 (by decide)) (rE_ha I0 J36 (I0.up h_o0) (by decide)) f40 0 0
    have q43 := J36.keep h_o0 (by decide) q1
    refine mv_aload_n d_TrustDeskModel_opens_13 rfl rfl ?_
    obtain ⟨_, b44, -⟩ := I37.1 _ _ t41
    refine mv_callV (kc1 := 0) (ks1 := 0) (kc' := 0) (ks' := 0) (As := []) (st9 := [.ref o0]) d_TrustDeskModel_opens_14 lV_TrustDeskModel_230 b44 rfl (mj_enter (by decide) (Nat.le_of_ble_eq_true rfl) ?_) rfl (Nat.le_of_ble_eq_true rfl) (Nat.le_of_ble_eq_true rfl) (Nat.le_of_ble_eq_true rfl) (hst := rfl) (fun _ _ _ h => h)
    refine mv_aload_n d_TrustDeskModel_isWell_0 rfl rfl ?_
    obtain ⟨v46, q45⟩ := tm_atI I37 t41 (k := 19) rfl
    refine tr_getK q45 d_TrustDeskModel_isWell_1 f_TrustDeskModel_224_13 ?_
    have := R39.f (k := 19) q45 rfl
    have := tm_rv q45
    have := mz_hi v46
    refine mv_if_neZ (tgt := 11) (a := v46.toInt) d_TrustDeskModel_isWell_4 (by decide) rfl (fun b47 => ?_) (fun b47 => ?_)
    · refine mv_iconst (v := 0) d_TrustDeskModel_isWell_11 (by decide) ?_
      refine mv_iret d_TrustDeskModel_isWell_12 rfl (by decide) ?_
      refine mv_if_ne_f (tgt := 21) d_TrustDeskModel_opens_17 (by decide) (by decide) ?_
      exact mv_vret d_TrustDeskModel_opens_20 rfl ⟨_, I37, rfl, R39, E42.vac (by have := R39.1 15 _ _ rfl; have := R39.1 16 _ _ rfl; have := R39.1 19 _ _ rfl; have := E42.f yS; omega) 0 1, (by have := R39.1 15 _ _ rfl; have := R39.1 16 _ _ rfl; have := R39.1 19 _ _ rfl; have := E42.f yS; omega)⟩
    · refine mv_iconst (v := 1) d_TrustDeskModel_isWell_7 (by decide) ?_
      refine mv_goto (tgt := 12) d_TrustDeskModel_isWell_8 (by decide) ?_
      refine mv_iret d_TrustDeskModel_isWell_12 rfl (by decide) ?_
      refine mv_if_ne_t (tgt := 21) d_TrustDeskModel_opens_17 (by decide) (by decide) ?_
      refine mv_aload_n d_TrustDeskModel_opens_21 rfl rfl ?_
      refine mv_dup d_TrustDeskModel_opens_22 rfl ?_
      refine tr_getK (k := 22) q43 d_TrustDeskModel_opens_23 f_TrustDeskModel_276_13 ?_
      refine mv_iconst (v := 1) d_TrustDeskModel_opens_26 (by decide) ?_
      refine mv_iadd d_TrustDeskModel_opens_27 ?_
      have b48 : (v2 + 1 : Int32).toInt = (v2.toInt + 1) := mz_add2 rfl (by decide) (by have := R39.1 15 _ _ rfl; have := R39.1 16 _ _ rfl; have := R39.1 19 _ _ rfl; have := E42.f yS; omega) (by have := R39.1 15 _ _ rfl; have := R39.1 16 _ _ rfl; have := R39.1 19 _ _ rfl; have := E42.f yS; omega)
      refine tr_putR (k := 22) I37 R39 t41 rfl ⟨_, rfl⟩ (fun _ h => by cases h) rfl (fun lo hi h => by cases h) (Or.inl (by decide)) d_TrustDeskModel_opens_28 p_TrustDeskModel_276_13 rfl rfl (fun M49 I50 q51 K52 R53 A54 V55 => ?_)
      have := V55 16 (by decide)
      have := V55 17 (by decide)
      have := V55 19 (by decide)
      have := tm_rv q51
      have E56 : rE M0 M49 o0 0 0 := E42.same (fun k h1 h2 => V55 k (by omega)) (fun k h1 h2 => A54 k (by omega))
      refine mv_aload_n d_TrustDeskModel_opens_31 rfl rfl ?_
      obtain ⟨_, b63, -⟩ := I50.1 _ _ t41
      refine mv_callV (kc' := 0) (ks' := 0) (As := []) (st9 := [.ref o0]) d_TrustDeskModel_opens_32 lV_TrustDeskModel_237 b63 rfl (tc_TrustDeskModel_next_x (d := d) (x9 := x9) (o0 := o0) t41 R53 I50.start) rfl (Nat.le_of_ble_eq_true rfl) (Nat.le_of_ble_eq_true rfl) (Nat.le_of_ble_eq_true rfl) (hst := rfl) (fun b57r M58 n59 b57 => ?_)
      obtain ⟨T60, J61, rfl, R64, f65, f66⟩ := b57
      have I62 := I50.call J61 (tm_sub (by decide)) (Or.inl rfl)
      have t67 := J61.up t41
      have := (rv_c I50 J61 (I50.up h_o0) (k := 19) rfl)
      have := (rv_c I50 J61 (I50.up h_o0) (k := 22) rfl)
      have h69 : rv M49 o0 16 + 1 ≤ rv M49 o0 15 := (by have := R53.1 15 _ _ rfl; have := R53.1 16 _ _ rfl; have := R53.1 19 _ _ rfl; have := E56.f yS; omega)
      have E68 : rE M0 M58 o0 0 1 := E56.next f65 f66 (rv_c I50 J61 (I50.up h_o0) (k := 19) rfl) (rE_ha I50 J61 (I50.up h_o0) (by decide)) (e := 1) h69 (by decide)
      have q70 := J61.keep t41 (by decide) (K52 _ 13 19 _ rfl q45)
      have q71 := J61.keep t41 (by decide) q51
      exact mv_vret d_TrustDeskModel_opens_35 rfl ⟨_, I62, rfl, R64, E68, (by have := R64.1 15 _ _ rfl; have := R64.1 16 _ _ rfl; have := R64.1 19 _ _ rfl; have := E68.f yS; omega)⟩
theorem lV_TrustDeskModel_285 : mj_lV "TrustDeskModel" 285 kY_TrustDeskModel_opens 0 := ⟨⟨(mj_in1 (List.mem_of_getElem? (i := 1721) (by decide +kernel)) rfl), (mj_in1 (List.mem_of_getElem? (i := 10) (by decide +kernel)) rfl), (mj_in1 (List.mem_of_getElem? (i := 1724) (by decide +kernel)) rfl), by decide, rfl, by decide⟩, (mj_in1 (List.mem_of_getElem? (i := 1723) (by decide +kernel)) rfl), (mj_in (List.mem_append_left _ (List.mem_of_getElem? (i := 94) (by decide +kernel))) rfl)⟩
theorem d_TrustDeskModel_factor_90 : decode kY_TrustDeskModel_factor.2.1 90 = .ok (.aload_n 0, 1) := by decide +kernel
theorem d_TrustDeskModel_factor_91 : decode kY_TrustDeskModel_factor.2.1 91 = .ok (.invokevirtual 288, 3) := by decide +kernel
def w_TrustDeskModel_factor_q0_x : List Nat := []
theorem tc_TrustDeskModel_factor_q0_x {g : mj_G} {l : Launch} {d : Nat} {T0 : tm_H} {M0 : mj_M} {n0 x9 : Nat} {o0 : Nat} (h_o0 : T0 o0 = some (0, 13, 0)) (yR : rI M0 o0) (yT : rT M0 o0) (yS : rv M0 o0 19 = 0 → ra M0 o0 5 44 ≤ rv M0 o0 16) (yL : rv M0 o0 19 ≠ 0 ∨ (5 ≤ rv M0 o0 22 ∧ rv M0 o0 22 ≤ 4)) (I0 : tm_I tm_FT (tm_in w_TrustDeskModel_factor_q0_x) x9 T0 M0 n0 T0 M0 n0) : mj_Met g l kY_TrustDeskModel_factor (d + 1) [.ref o0] M0 n0 0 0 (tm_Q tm_FT (tm_in w_TrustDeskModel_factor_q0_x) x9 T0 M0 n0 (fun r _ M => r = none ∧ rI M o0 ∧ (rE M0 M o0 1 0) ∧ (rv M o0 19 = 0 → rv M o0 22 = rv M0 o0 22))) := by
  refine mj_enter (by decide) (Nat.le_of_ble_eq_true rfl) ?_
  have yE0 := rE.rf yT
  refine mv_aload_n d_TrustDeskModel_factor_0 rfl rfl ?_
  obtain ⟨_, b1, -⟩ := I0.1 _ _ h_o0
  refine mv_callV (kc1 := 0) (ks1 := 0) (kc' := 0) (ks' := 0) (As := []) (st9 := [.ref o0]) d_TrustDeskModel_factor_1 lV_TrustDeskModel_230 b1 rfl (mj_enter (by decide) (Nat.le_of_ble_eq_true rfl) ?_) rfl (Nat.le_of_ble_eq_true rfl) (Nat.le_of_ble_eq_true rfl) (Nat.le_of_ble_eq_true rfl) (hst := rfl) (fun _ _ _ h => h)
  refine mv_aload_n d_TrustDeskModel_isWell_0 rfl rfl ?_
  obtain ⟨v3, q2⟩ := tm_atI I0 h_o0 (k := 19) rfl
  refine tr_getK q2 d_TrustDeskModel_isWell_1 f_TrustDeskModel_224_13 ?_
  have := yR.f (k := 19) q2 rfl
  have := tm_rv q2
  refine mv_if_neZ (tgt := 11) (a := v3.toInt) d_TrustDeskModel_isWell_4 (by decide) rfl (fun b4 => ?_) (fun b4 => ?_)
  · refine mv_iconst (v := 0) d_TrustDeskModel_isWell_11 (by decide) ?_
    refine mv_iret d_TrustDeskModel_isWell_12 rfl (by decide) ?_
    refine mv_if_ne_f (tgt := 8) d_TrustDeskModel_factor_4 (by decide) (by decide) ?_
    exact mv_vret d_TrustDeskModel_factor_7 rfl ⟨_, I0, rfl, yR, yE0.vac (by have := yR.1 15 _ _ rfl; have := yR.1 16 _ _ rfl; have := yR.1 19 _ _ rfl; have := yE0.f yS; omega) 1 0, (by have := yR.1 15 _ _ rfl; have := yR.1 16 _ _ rfl; have := yR.1 19 _ _ rfl; have := yE0.f yS; omega)⟩
  · exfalso
    have := yR.1 15 _ _ rfl; have := yR.1 16 _ _ rfl; have := yR.1 19 _ _ rfl; have := yE0.f yS; omega
theorem lV_TrustDeskModel_294 : mj_lV "TrustDeskModel" 294 kY_TrustDeskModel_factor 0 := ⟨⟨(mj_in1 (List.mem_of_getElem? (i := 1741) (by decide +kernel)) rfl), (mj_in1 (List.mem_of_getElem? (i := 10) (by decide +kernel)) rfl), (mj_in1 (List.mem_of_getElem? (i := 1744) (by decide +kernel)) rfl), by decide, rfl, by decide⟩, (mj_in1 (List.mem_of_getElem? (i := 1743) (by decide +kernel)) rfl), (mj_in (List.mem_append_left _ (List.mem_of_getElem? (i := 99) (by decide +kernel))) rfl)⟩
theorem d_TrustDeskModel_product_4 : decode kY_TrustDeskModel_product.2.1 4 = .ok (.aload_n 0, 1) := by decide +kernel
theorem d_TrustDeskModel_product_5 : decode kY_TrustDeskModel_product.2.1 5 = .ok (.invokevirtual 230, 3) := by decide +kernel
theorem d_TrustDeskModel_product_8 : decode kY_TrustDeskModel_product.2.1 8 = .ok (.ifCond .eq 29, 3) := by decide +kernel
theorem d_TrustDeskModel_product_37 : decode kY_TrustDeskModel_product.2.1 37 = .ok (.return_, 1) := by decide +kernel
def w_TrustDeskModel_product_q0_x : List Nat := []
theorem tc_TrustDeskModel_product_q0_x {g : mj_G} {l : Launch} {d : Nat} {T0 : tm_H} {M0 : mj_M} {n0 x9 : Nat} {o0 : Nat} (h_o0 : T0 o0 = some (0, 13, 0)) (yR : rI M0 o0) (yT : rT M0 o0) (yS : rv M0 o0 19 = 0 → ra M0 o0 5 44 ≤ rv M0 o0 16) (yL : rv M0 o0 19 ≠ 0 ∨ (5 ≤ rv M0 o0 22 ∧ rv M0 o0 22 ≤ 4)) (I0 : tm_I tm_FT (tm_in w_TrustDeskModel_product_q0_x) x9 T0 M0 n0 T0 M0 n0) : mj_Met g l kY_TrustDeskModel_product (d + 2) [.ref o0] M0 n0 0 0 (tm_Q tm_FT (tm_in w_TrustDeskModel_product_q0_x) x9 T0 M0 n0 (fun r _ M => r = none ∧ rI M o0 ∧ (rE M0 M o0 1 0) ∧ (rv M o0 19 = 0 → rv M o0 22 = rv M0 o0 22))) := by
  refine mj_enter (by decide) (Nat.le_of_ble_eq_true rfl) ?_
  have yE0 := rE.rf yT
  refine mv_aload_n d_TrustDeskModel_product_0 rfl rfl ?_
  obtain ⟨_, b7, -⟩ := I0.1 _ _ h_o0
  refine mv_callV (kc' := 0) (ks' := 0) (As := []) (st9 := [.ref o0]) d_TrustDeskModel_product_1 lV_TrustDeskModel_294 b7 rfl (tc_TrustDeskModel_factor_q0_x (d := d) (x9 := x9) (o0 := o0) h_o0 yR yE0.1 (by have := yR.1 15 _ _ rfl; have := yR.1 16 _ _ rfl; have := yR.1 19 _ _ rfl; have := yE0.f yS; omega) (by have := yR.1 15 _ _ rfl; have := yR.1 16 _ _ rfl; have := yR.1 19 _ _ rfl; have := yE0.f yS; omega) I0.start) rfl (Nat.le_of_ble_eq_true rfl) (Nat.le_of_ble_eq_true rfl) (Nat.le_of_ble_eq_true rfl) (hst := rfl) (fun b1r M2 n3 b1 => ?_)
  obtain ⟨T4, J5, rfl, R8, f9, f10⟩ := b1
  have I6 := I0.call J5 (tm_sub (by decide)) (Or.inl rfl)
  have t11 := J5.up h_o0
  have := (rv_c I0 J5 (I0.up h_o0) (k := 16) rfl)
  have := (rv_c I0 J5 (I0.up h_o0) (k := 17) rfl)
  have := (rv_c I0 J5 (I0.up h_o0) (k := 19) rfl)
  have := (rv_c I0 J5 (I0.up h_o0) (k := 22) rfl)
  have E12 : rE M0 M2 o0 1 0 := yE0.trans f9 (by decide) (yR.2 5 _ _ rfl 44).1 (by decide) (by decide)
  have := f9.w
  have L4_13 : ∀ (k : Nat) (T_13 : tm_H) (M_13 : mj_M) (n_13 : Nat), tm_I tm_FT (tm_in w_TrustDeskModel_product_q0_x) x9 T0 M0 n0 T_13 M_13 n_13 → T_13 o0 = some (0, 13, 0) → (rv M_13 o0 19 = 0 → rv M_13 o0 22 = rv M0 o0 22) → (rI M_13 o0) → (rE M0 M_13 o0 1 0) → 5 * (401 - rv M_13 o0 16) - rv M_13 o0 19 < (k : Int) → mj_V g l kY_TrustDeskModel_product (d + 2) 4 [(0, .ref o0)] [] M_13 n_13 0 0 (tm_Q tm_FT (tm_in w_TrustDeskModel_product_q0_x) x9 T0 M0 n0 (fun r _ M => r = none ∧ rI M o0 ∧ (rE M0 M o0 1 0) ∧ (rv M o0 19 = 0 → rv M o0 22 = rv M0 o0 22))) := by
    intro k13
    induction k13 with
    | zero =>
      intro T_13 M_13 n_13 I_13 h_q0_13 iv0_13 kKR_13 kKE_13 hk13
      have := kKR_13.1 15 _ _ rfl
      have := kKR_13.1 16 _ _ rfl
      have := kKR_13.1 19 _ _ rfl
      exfalso; omega
    | succ k13 ih13 =>
      intro T_13 M_13 n_13 I_13 h_q0_13 iv0_13 kKR_13 kKE_13 hk13
      have := kKE_13.f yS
      refine mv_aload_n d_TrustDeskModel_product_4 rfl rfl ?_
      obtain ⟨_, b14, -⟩ := I_13.1 _ _ h_q0_13
      refine mv_callV (kc1 := 0) (ks1 := 0) (kc' := 0) (ks' := 0) (As := []) (st9 := [.ref o0]) d_TrustDeskModel_product_5 lV_TrustDeskModel_230 b14 rfl (mj_enter (by decide) (Nat.le_of_ble_eq_true rfl) ?_) rfl (Nat.le_of_ble_eq_true rfl) (Nat.le_of_ble_eq_true rfl) (Nat.le_of_ble_eq_true rfl) (hst := rfl) (fun _ _ _ h => h)
      refine mv_aload_n d_TrustDeskModel_isWell_0 rfl rfl ?_
      obtain ⟨v16, q15⟩ := tm_atI I_13 h_q0_13 (k := 19) rfl
      refine tr_getK q15 d_TrustDeskModel_isWell_1 f_TrustDeskModel_224_13 ?_
      have := kKR_13.f (k := 19) q15 rfl
      have := tm_rv q15
      refine mv_if_neZ (tgt := 11) (a := v16.toInt) d_TrustDeskModel_isWell_4 (by decide) rfl (fun b17 => ?_) (fun b17 => ?_)
      · refine mv_iconst (v := 0) d_TrustDeskModel_isWell_11 (by decide) ?_
        refine mv_iret d_TrustDeskModel_isWell_12 rfl (by decide) ?_
        refine mv_if_eq_t (tgt := 37) d_TrustDeskModel_product_8 (by decide) (by decide) ?_
        exact mv_vret d_TrustDeskModel_product_37 rfl ⟨_, I_13, rfl, kKR_13, kKE_13, (by have := kKR_13.1 15 _ _ rfl; have := kKR_13.1 16 _ _ rfl; have := kKR_13.1 19 _ _ rfl; have := kKE_13.f yS; omega)⟩
      · exfalso
        have := kKR_13.1 15 _ _ rfl; have := kKR_13.1 16 _ _ rfl; have := kKR_13.1 19 _ _ rfl; have := kKE_13.f yS; omega
  exact mv_less (Nat.zero_le _) (Nat.zero_le _) (L4_13 4294967296 T4 M2 n3 I6 t11 (by have := R8.1 15 _ _ rfl; have := R8.1 16 _ _ rfl; have := R8.1 19 _ _ rfl; have := E12.f yS; first | omega | decide) R8 E12 (by have := R8.1 15 _ _ rfl; have := R8.1 16 _ _ rfl; have := R8.1 19 _ _ rfl; have := E12.f yS; omega))
theorem lV_TrustDeskModel_297 : mj_lV "TrustDeskModel" 297 kY_TrustDeskModel_product 0 := ⟨⟨(mj_in1 (List.mem_of_getElem? (i := 1737) (by decide +kernel)) rfl), (mj_in1 (List.mem_of_getElem? (i := 10) (by decide +kernel)) rfl), (mj_in1 (List.mem_of_getElem? (i := 1740) (by decide +kernel)) rfl), by decide, rfl, by decide⟩, (mj_in1 (List.mem_of_getElem? (i := 1739) (by decide +kernel)) rfl), (mj_in (List.mem_append_left _ (List.mem_of_getElem? (i := 98) (by decide +kernel))) rfl)⟩
theorem d_TrustDeskModel_sum_4 : decode kY_TrustDeskModel_sum.2.1 4 = .ok (.aload_n 0, 1) := by decide +kernel
theorem d_TrustDeskModel_sum_5 : decode kY_TrustDeskModel_sum.2.1 5 = .ok (.invokevirtual 230, 3) := by decide +kernel
theorem d_TrustDeskModel_sum_8 : decode kY_TrustDeskModel_sum.2.1 8 = .ok (.ifCond .eq 53, 3) := by decide +kernel
theorem d_TrustDeskModel_sum_61 : decode kY_TrustDeskModel_sum.2.1 61 = .ok (.return_, 1) := by decide +kernel
def w_TrustDeskModel_sum_q0_x : List Nat := []
theorem tc_TrustDeskModel_sum_q0_x {g : mj_G} {l : Launch} {d : Nat} {T0 : tm_H} {M0 : mj_M} {n0 x9 : Nat} {o0 : Nat} (h_o0 : T0 o0 = some (0, 13, 0)) (yR : rI M0 o0) (yT : rT M0 o0) (yS : rv M0 o0 19 = 0 → ra M0 o0 5 44 ≤ rv M0 o0 16) (yL : rv M0 o0 19 ≠ 0 ∨ (5 ≤ rv M0 o0 22 ∧ rv M0 o0 22 ≤ 4)) (I0 : tm_I tm_FT (tm_in w_TrustDeskModel_sum_q0_x) x9 T0 M0 n0 T0 M0 n0) : mj_Met g l kY_TrustDeskModel_sum (d + 3) [.ref o0] M0 n0 0 0 (tm_Q tm_FT (tm_in w_TrustDeskModel_sum_q0_x) x9 T0 M0 n0 (fun r _ M => r = none ∧ rI M o0 ∧ (rE M0 M o0 1 0) ∧ (rv M o0 19 = 0 → rv M o0 22 = rv M0 o0 22))) := by
  refine mj_enter (by decide) (Nat.le_of_ble_eq_true rfl) ?_
  have yE0 := rE.rf yT
  refine mv_aload_n d_TrustDeskModel_sum_0 rfl rfl ?_
  obtain ⟨_, b7, -⟩ := I0.1 _ _ h_o0
  refine mv_callV (kc' := 0) (ks' := 0) (As := []) (st9 := [.ref o0]) d_TrustDeskModel_sum_1 lV_TrustDeskModel_297 b7 rfl (tc_TrustDeskModel_product_q0_x (d := d) (x9 := x9) (o0 := o0) h_o0 yR yE0.1 (by have := yR.1 15 _ _ rfl; have := yR.1 16 _ _ rfl; have := yR.1 19 _ _ rfl; have := yE0.f yS; omega) (by have := yR.1 15 _ _ rfl; have := yR.1 16 _ _ rfl; have := yR.1 19 _ _ rfl; have := yE0.f yS; omega) I0.start) rfl (Nat.le_of_ble_eq_true rfl) (Nat.le_of_ble_eq_true rfl) (Nat.le_of_ble_eq_true rfl) (hst := rfl) (fun b1r M2 n3 b1 => ?_)
  obtain ⟨T4, J5, rfl, R8, f9, f10⟩ := b1
  have I6 := I0.call J5 (tm_sub (by decide)) (Or.inl rfl)
  have t11 := J5.up h_o0
  have := (rv_c I0 J5 (I0.up h_o0) (k := 16) rfl)
  have := (rv_c I0 J5 (I0.up h_o0) (k := 17) rfl)
  have := (rv_c I0 J5 (I0.up h_o0) (k := 19) rfl)
  have := (rv_c I0 J5 (I0.up h_o0) (k := 22) rfl)
  have E12 : rE M0 M2 o0 1 0 := yE0.trans f9 (by decide) (yR.2 5 _ _ rfl 44).1 (by decide) (by decide)
  have := f9.w
  have L4_13 : ∀ (k : Nat) (T_13 : tm_H) (M_13 : mj_M) (n_13 : Nat), tm_I tm_FT (tm_in w_TrustDeskModel_sum_q0_x) x9 T0 M0 n0 T_13 M_13 n_13 → T_13 o0 = some (0, 13, 0) → (rv M_13 o0 19 = 0 → rv M_13 o0 22 = rv M0 o0 22) → (rI M_13 o0) → (rE M0 M_13 o0 1 0) → 5 * (401 - rv M_13 o0 16) - rv M_13 o0 19 < (k : Int) → mj_V g l kY_TrustDeskModel_sum (d + 3) 4 [(0, .ref o0)] [] M_13 n_13 0 0 (tm_Q tm_FT (tm_in w_TrustDeskModel_sum_q0_x) x9 T0 M0 n0 (fun r _ M => r = none ∧ rI M o0 ∧ (rE M0 M o0 1 0) ∧ (rv M o0 19 = 0 → rv M o0 22 = rv M0 o0 22))) := by
    intro k13
    induction k13 with
    | zero =>
      intro T_13 M_13 n_13 I_13 h_q0_13 iv0_13 kKR_13 kKE_13 hk13
      have := kKR_13.1 15 _ _ rfl
      have := kKR_13.1 16 _ _ rfl
      have := kKR_13.1 19 _ _ rfl
      exfalso; omega
    | succ k13 ih13 =>
      intro T_13 M_13 n_13 I_13 h_q0_13 iv0_13 kKR_13 kKE_13 hk13
      have := kKE_13.f yS
      refine mv_aload_n d_TrustDeskModel_sum_4 rfl rfl ?_
      obtain ⟨_, b14, -⟩ := I_13.1 _ _ h_q0_13
      refine mv_callV (kc1 := 0) (ks1 := 0) (kc' := 0) (ks' := 0) (As := []) (st9 := [.ref o0]) d_TrustDeskModel_sum_5 lV_TrustDeskModel_230 b14 rfl (mj_enter (by decide) (Nat.le_of_ble_eq_true rfl) ?_) rfl (Nat.le_of_ble_eq_true rfl) (Nat.le_of_ble_eq_true rfl) (Nat.le_of_ble_eq_true rfl) (hst := rfl) (fun _ _ _ h => h)
      refine mv_aload_n d_TrustDeskModel_isWell_0 rfl rfl ?_
      obtain ⟨v16, q15⟩ := tm_atI I_13 h_q0_13 (k := 19) rfl
      refine tr_getK q15 d_TrustDeskModel_isWell_1 f_TrustDeskModel_224_13 ?_
      have := kKR_13.f (k := 19) q15 rfl
      have := tm_rv q15
      refine mv_if_neZ (tgt := 11) (a := v16.toInt) d_TrustDeskModel_isWell_4 (by decide) rfl (fun b17 => ?_) (fun b17 => ?_)
      · refine mv_iconst (v := 0) d_TrustDeskModel_isWell_11 (by decide) ?_
        refine mv_iret d_TrustDeskModel_isWell_12 rfl (by decide) ?_
        refine mv_if_eq_t (tgt := 61) d_TrustDeskModel_sum_8 (by decide) (by decide) ?_
        exact mv_vret d_TrustDeskModel_sum_61 rfl ⟨_, I_13, rfl, kKR_13, kKE_13, (by have := kKR_13.1 15 _ _ rfl; have := kKR_13.1 16 _ _ rfl; have := kKR_13.1 19 _ _ rfl; have := kKE_13.f yS; omega)⟩
      · exfalso
        have := kKR_13.1 15 _ _ rfl; have := kKR_13.1 16 _ _ rfl; have := kKR_13.1 19 _ _ rfl; have := kKE_13.f yS; omega
  exact mv_less (Nat.zero_le _) (Nat.zero_le _) (L4_13 4294967296 T4 M2 n3 I6 t11 (by have := R8.1 15 _ _ rfl; have := R8.1 16 _ _ rfl; have := R8.1 19 _ _ rfl; have := E12.f yS; first | omega | decide) R8 E12 (by have := R8.1 15 _ _ rfl; have := R8.1 16 _ _ rfl; have := R8.1 19 _ _ rfl; have := E12.f yS; omega))
theorem lV_TrustDeskModel_288 : mj_lV "TrustDeskModel" 288 kY_TrustDeskModel_sum 0 := ⟨⟨(mj_in1 (List.mem_of_getElem? (i := 1733) (by decide +kernel)) rfl), (mj_in1 (List.mem_of_getElem? (i := 10) (by decide +kernel)) rfl), (mj_in1 (List.mem_of_getElem? (i := 1736) (by decide +kernel)) rfl), by decide, rfl, by decide⟩, (mj_in1 (List.mem_of_getElem? (i := 1735) (by decide +kernel)) rfl), (mj_in (List.mem_append_left _ (List.mem_of_getElem? (i := 97) (by decide +kernel))) rfl)⟩
theorem d_TrustDeskModel_factor_94 : decode kY_TrustDeskModel_factor.2.1 94 = .ok (.aload_n 0, 1) := by decide +kernel
theorem d_TrustDeskModel_factor_95 : decode kY_TrustDeskModel_factor.2.1 95 = .ok (.bipush 41, 2) := by decide +kernel
theorem d_TrustDeskModel_factor_97 : decode kY_TrustDeskModel_factor.2.1 97 = .ok (.invokevirtual 291, 3) := by decide +kernel
abbrev kY_TrustDeskModel_wantSign : mj_Y := (⟨"TrustDeskModel", "wantSign", "(I)V"⟩, prog_14_method_21_code, 2, (Option.none : Option Jvm.ClassFile.FieldType))
theorem d_TrustDeskModel_wantSign_0 : decode kY_TrustDeskModel_wantSign.2.1 0 = .ok (.aload_n 0, 1) := by decide +kernel
theorem d_TrustDeskModel_wantSign_1 : decode kY_TrustDeskModel_wantSign.2.1 1 = .ok (.invokevirtual 230, 3) := by decide +kernel
theorem d_TrustDeskModel_wantSign_4 : decode kY_TrustDeskModel_wantSign.2.1 4 = .ok (.ifCond .ne 4, 3) := by decide +kernel
theorem d_TrustDeskModel_wantSign_7 : decode kY_TrustDeskModel_wantSign.2.1 7 = .ok (.return_, 1) := by decide +kernel
theorem d_TrustDeskModel_wantSign_8 : decode kY_TrustDeskModel_wantSign.2.1 8 = .ok (.aload_n 0, 1) := by decide +kernel
theorem d_TrustDeskModel_wantSign_9 : decode kY_TrustDeskModel_wantSign.2.1 9 = .ok (.iload_n 1, 1) := by decide +kernel
theorem d_TrustDeskModel_wantSign_10 : decode kY_TrustDeskModel_wantSign.2.1 10 = .ok (.invokevirtual 234, 3) := by decide +kernel
theorem d_TrustDeskModel_wantSign_13 : decode kY_TrustDeskModel_wantSign.2.1 13 = .ok (.ifCond .eq 10, 3) := by decide +kernel
theorem d_TrustDeskModel_wantSign_23 : decode kY_TrustDeskModel_wantSign.2.1 23 = .ok (.aload_n 0, 1) := by decide +kernel
theorem d_TrustDeskModel_wantSign_24 : decode kY_TrustDeskModel_wantSign.2.1 24 = .ok (.iconst 1, 1) := by decide +kernel
theorem d_TrustDeskModel_wantSign_25 : decode kY_TrustDeskModel_wantSign.2.1 25 = .ok (.invokevirtual 240, 3) := by decide +kernel
theorem d_TrustDeskModel_wantSign_28 : decode kY_TrustDeskModel_wantSign.2.1 28 = .ok (.return_, 1) := by decide +kernel
theorem d_TrustDeskModel_wantSign_16 : decode kY_TrustDeskModel_wantSign.2.1 16 = .ok (.aload_n 0, 1) := by decide +kernel
theorem d_TrustDeskModel_wantSign_17 : decode kY_TrustDeskModel_wantSign.2.1 17 = .ok (.invokevirtual 237, 3) := by decide +kernel
theorem d_TrustDeskModel_wantSign_20 : decode kY_TrustDeskModel_wantSign.2.1 20 = .ok (.goto 8, 3) := by decide +kernel
def w_TrustDeskModel_wantSign_x : List Nat := [1315, 1316, 1317, 1318, 1319, 1320]
theorem tc_TrustDeskModel_wantSign_x {g : mj_G} {l : Launch} {d : Nat} {T0 : tm_H} {M0 : mj_M} {n0 x9 : Nat} {o0 : Nat} {x1 : Int32} (h_o0 : T0 o0 = some (0, 13, 0)) (yR : rI M0 o0) (yT : rT M0 o0) (yS : rv M0 o0 19 = 0 → ra M0 o0 5 44 ≤ rv M0 o0 16) (I0 : tm_I tm_FT (tm_in w_TrustDeskModel_wantSign_x) x9 T0 M0 n0 T0 M0 n0) : mj_Met g l kY_TrustDeskModel_wantSign (d + 2) [.ref o0, .int x1] M0 n0 0 0 (tm_Q tm_FT (tm_in w_TrustDeskModel_wantSign_x) x9 T0 M0 n0 (fun r _ M => r = none ∧ rI M o0 ∧ (rE M0 M o0 0 1))) := by
  refine mj_enter (by decide) (Nat.le_of_ble_eq_true rfl) ?_
  have yE0 := rE.rf yT
  refine mv_aload_n d_TrustDeskModel_wantSign_0 rfl rfl ?_
  obtain ⟨_, b1, -⟩ := I0.1 _ _ h_o0
  refine mv_callV (kc1 := 0) (ks1 := 0) (kc' := 0) (ks' := 0) (As := []) (st9 := [.ref o0]) d_TrustDeskModel_wantSign_1 lV_TrustDeskModel_230 b1 rfl (mj_enter (by decide) (Nat.le_of_ble_eq_true rfl) ?_) rfl (Nat.le_of_ble_eq_true rfl) (Nat.le_of_ble_eq_true rfl) (Nat.le_of_ble_eq_true rfl) (hst := rfl) (fun _ _ _ h => h)
  refine mv_aload_n d_TrustDeskModel_isWell_0 rfl rfl ?_
  obtain ⟨v3, q2⟩ := tm_atI I0 h_o0 (k := 19) rfl
  refine tr_getK q2 d_TrustDeskModel_isWell_1 f_TrustDeskModel_224_13 ?_
  have := yR.f (k := 19) q2 rfl
  have := tm_rv q2
  have := mz_hi v3
  refine mv_if_neZ (tgt := 11) (a := v3.toInt) d_TrustDeskModel_isWell_4 (by decide) rfl (fun b4 => ?_) (fun b4 => ?_)
  · refine mv_iconst (v := 0) d_TrustDeskModel_isWell_11 (by decide) ?_
    refine mv_iret d_TrustDeskModel_isWell_12 rfl (by decide) ?_
    refine mv_if_ne_f (tgt := 8) d_TrustDeskModel_wantSign_4 (by decide) (by decide) ?_
    exact mv_vret d_TrustDeskModel_wantSign_7 rfl ⟨_, I0, rfl, yR, yE0.vac (by have := yR.1 15 _ _ rfl; have := yR.1 16 _ _ rfl; have := yR.1 19 _ _ rfl; have := yE0.f yS; omega) 0 1⟩
  · refine mv_iconst (v := 1) d_TrustDeskModel_isWell_7 (by decide) ?_
    refine mv_goto (tgt := 12) d_TrustDeskModel_isWell_8 (by decide) ?_
    refine mv_iret d_TrustDeskModel_isWell_12 rfl (by decide) ?_
    refine mv_if_ne_t (tgt := 8) d_TrustDeskModel_wantSign_4 (by decide) (by decide) ?_
    refine mv_aload_n d_TrustDeskModel_wantSign_8 rfl rfl ?_
    refine mv_iload_n d_TrustDeskModel_wantSign_9 rfl rfl ?_
    obtain ⟨_, b5, -⟩ := I0.1 _ _ h_o0
    refine mv_callV (kc1 := 0) (ks1 := 0) (kc' := 0) (ks' := 0) (As := [.int x1]) (st9 := [.int x1, .ref o0]) d_TrustDeskModel_wantSign_10 lV_TrustDeskModel_234 b5 rfl (mj_enter (by decide) (Nat.le_of_ble_eq_true rfl) ?_) rfl (Nat.le_of_ble_eq_true rfl) (Nat.le_of_ble_eq_true rfl) (Nat.le_of_ble_eq_true rfl) (hst := rfl) (fun _ _ _ h => h)
    refine mv_aload_n d_TrustDeskModel_isSign_0 rfl rfl ?_
    obtain ⟨v7, q6⟩ := tm_atI I0 h_o0 (k := 17) rfl
    refine tr_getK q6 d_TrustDeskModel_isSign_1 f_TrustDeskModel_198_13 ?_
    have := tm_rv q6
    refine mv_iconst (v := 4) d_TrustDeskModel_isSign_4 (by decide) ?_
    have := mz_hi v7
    refine mv_icmp_neZ (tgt := 20) (a := v7.toInt) (b := 4) d_TrustDeskModel_isSign_5 (by decide) rfl (by decide) (fun b8 => ?_) (fun b8 => ?_)
    · refine mv_iconst (v := 0) d_TrustDeskModel_isSign_20 (by decide) ?_
      refine mv_iret d_TrustDeskModel_isSign_21 rfl (by decide) ?_
      refine mv_if_eq_t (tgt := 23) d_TrustDeskModel_wantSign_13 (by decide) (by decide) ?_
      refine mv_aload_n d_TrustDeskModel_wantSign_23 rfl rfl ?_
      refine mv_iconst (v := 1) d_TrustDeskModel_wantSign_24 (by decide) ?_
      obtain ⟨_, b15, -⟩ := I0.1 _ _ h_o0
      refine mv_callV (kc' := 0) (ks' := 0) (As := [.int 1]) (st9 := [.int 1, .ref o0]) d_TrustDeskModel_wantSign_25 lV_TrustDeskModel_240 b15 rfl (tc_TrustDeskModel_fails_x (d := (d + 1)) (x9 := x9) (o0 := o0) (x1 := 1) h_o0 yR (by decide) I0.start) rfl (Nat.le_of_ble_eq_true rfl) (Nat.le_of_ble_eq_true rfl) (Nat.le_of_ble_eq_true rfl) (hst := rfl) (fun b9r M10 n11 b9 => ?_)
      obtain ⟨T12, J13, rfl, R16, f17⟩ := b9
      have I14 := I0.call J13 (tm_sub (by decide)) (Or.inl rfl)
      have t18 := J13.up h_o0
      have := (rv_c I0 J13 (I0.up h_o0) (k := 16) rfl)
      have := (rv_c I0 J13 (I0.up h_o0) (k := 17) rfl)
      have := (rv_c I0 J13 (I0.up h_o0) (k := 22) rfl)
      have E19 : rE M0 M10 o0 0 0 := yE0.fails (rE_hv I0 J13 (I0.up h_o0) 15 18 (by decide)) (rE_ha I0 J13 (I0.up h_o0) (by decide)) f17 0 0
      have q20 := J13.keep h_o0 (by decide) q6
      exact mv_vret d_TrustDeskModel_wantSign_28 rfl ⟨_, I14, rfl, R16, E19.vac (by have := R16.1 15 _ _ rfl; have := R16.1 16 _ _ rfl; have := R16.1 19 _ _ rfl; have := E19.f yS; omega) 0 1⟩
    · refine mv_aload_n d_TrustDeskModel_isSign_8 rfl rfl ?_
      obtain ⟨v22, q21⟩ := tm_atI I0 h_o0 (k := 18) rfl
      refine tr_getK q21 d_TrustDeskModel_isSign_9 f_TrustDeskModel_201_13 ?_
      have := yR.f (k := 18) q21 rfl
      have := tm_rv q21
      refine mv_iload_n d_TrustDeskModel_isSign_12 rfl rfl ?_
      have := mz_hi v22
      have := mz_hi x1
      refine mv_icmp_neZ (tgt := 20) (a := v22.toInt) (b := x1.toInt) d_TrustDeskModel_isSign_13 (by decide) rfl rfl (fun b23 => ?_) (fun b23 => ?_)
      · refine mv_iconst (v := 0) d_TrustDeskModel_isSign_20 (by decide) ?_
        refine mv_iret d_TrustDeskModel_isSign_21 rfl (by decide) ?_
        refine mv_if_eq_t (tgt := 23) d_TrustDeskModel_wantSign_13 (by decide) (by decide) ?_
        refine mv_aload_n d_TrustDeskModel_wantSign_23 rfl rfl ?_
        refine mv_iconst (v := 1) d_TrustDeskModel_wantSign_24 (by decide) ?_
        obtain ⟨_, b30, -⟩ := I0.1 _ _ h_o0
        refine mv_callV (kc' := 0) (ks' := 0) (As := [.int 1]) (st9 := [.int 1, .ref o0]) d_TrustDeskModel_wantSign_25 lV_TrustDeskModel_240 b30 rfl (tc_TrustDeskModel_fails_x (d := (d + 1)) (x9 := x9) (o0 := o0) (x1 := 1) h_o0 yR (by decide) I0.start) rfl (Nat.le_of_ble_eq_true rfl) (Nat.le_of_ble_eq_true rfl) (Nat.le_of_ble_eq_true rfl) (hst := rfl) (fun b24r M25 n26 b24 => ?_)
        obtain ⟨T27, J28, rfl, R31, f32⟩ := b24
        have I29 := I0.call J28 (tm_sub (by decide)) (Or.inl rfl)
        have t33 := J28.up h_o0
        have := (rv_c I0 J28 (I0.up h_o0) (k := 16) rfl)
        have := (rv_c I0 J28 (I0.up h_o0) (k := 17) rfl)
        have := (rv_c I0 J28 (I0.up h_o0) (k := 22) rfl)
        have E34 : rE M0 M25 o0 0 0 := yE0.fails (rE_hv I0 J28 (I0.up h_o0) 15 18 (by decide)) (rE_ha I0 J28 (I0.up h_o0) (by decide)) f32 0 0
        have q35 := J28.keep h_o0 (by decide) q6
        have q36 := J28.keep h_o0 (by decide) q21
        exact mv_vret d_TrustDeskModel_wantSign_28 rfl ⟨_, I29, rfl, R31, E34.vac (by have := R31.1 15 _ _ rfl; have := R31.1 16 _ _ rfl; have := R31.1 19 _ _ rfl; have := E34.f yS; omega) 0 1⟩
      · refine mv_iconst (v := 1) d_TrustDeskModel_isSign_16 (by decide) ?_
        refine mv_goto (tgt := 21) d_TrustDeskModel_isSign_17 (by decide) ?_
        refine mv_iret d_TrustDeskModel_isSign_21 rfl (by decide) ?_
        refine mv_if_eq_f (tgt := 23) d_TrustDeskModel_wantSign_13 (by decide) (by decide) ?_
        refine mv_aload_n d_TrustDeskModel_wantSign_16 rfl rfl ?_
        obtain ⟨_, b43, -⟩ := I0.1 _ _ h_o0
        refine mv_callV (kc' := 0) (ks' := 0) (As := []) (st9 := [.ref o0]) d_TrustDeskModel_wantSign_17 lV_TrustDeskModel_237 b43 rfl (tc_TrustDeskModel_next_x (d := d) (x9 := x9) (o0 := o0) h_o0 yR I0.start) rfl (Nat.le_of_ble_eq_true rfl) (Nat.le_of_ble_eq_true rfl) (Nat.le_of_ble_eq_true rfl) (hst := rfl) (fun b37r M38 n39 b37 => ?_)
        obtain ⟨T40, J41, rfl, R44, f45, f46⟩ := b37
        have I42 := I0.call J41 (tm_sub (by decide)) (Or.inl rfl)
        have t47 := J41.up h_o0
        have := (rv_c I0 J41 (I0.up h_o0) (k := 19) rfl)
        have := (rv_c I0 J41 (I0.up h_o0) (k := 22) rfl)
        have h49 : rv M0 o0 16 + 1 ≤ rv M0 o0 15 := (by have := yR.1 15 _ _ rfl; have := yR.1 16 _ _ rfl; have := yR.1 19 _ _ rfl; have := yE0.f yS; omega)
        have E48 : rE M0 M38 o0 0 1 := yE0.next f45 f46 (rv_c I0 J41 (I0.up h_o0) (k := 19) rfl) (rE_ha I0 J41 (I0.up h_o0) (by decide)) (e := 1) h49 (by decide)
        have q50 := J41.keep h_o0 (by decide) q2
        refine mv_goto (tgt := 28) d_TrustDeskModel_wantSign_20 (by decide) ?_
        exact mv_vret d_TrustDeskModel_wantSign_28 rfl ⟨_, I42, rfl, R44, E48⟩
theorem lV_TrustDeskModel_291 : mj_lV "TrustDeskModel" 291 kY_TrustDeskModel_wantSign 1 := ⟨⟨(mj_in1 (List.mem_of_getElem? (i := 1725) (by decide +kernel)) rfl), (mj_in1 (List.mem_of_getElem? (i := 10) (by decide +kernel)) rfl), (mj_in1 (List.mem_of_getElem? (i := 1728) (by decide +kernel)) rfl), by decide, rfl, by decide⟩, (mj_in1 (List.mem_of_getElem? (i := 1727) (by decide +kernel)) rfl), (mj_in (List.mem_append_left _ (List.mem_of_getElem? (i := 95) (by decide +kernel))) rfl)⟩
theorem d_TrustDeskModel_factor_100 : decode kY_TrustDeskModel_factor.2.1 100 = .ok (.aload_n 0, 1) := by decide +kernel
theorem d_TrustDeskModel_factor_101 : decode kY_TrustDeskModel_factor.2.1 101 = .ok (.dup, 1) := by decide +kernel
theorem d_TrustDeskModel_factor_102 : decode kY_TrustDeskModel_factor.2.1 102 = .ok (.getfield 276, 3) := by decide +kernel
theorem d_TrustDeskModel_factor_105 : decode kY_TrustDeskModel_factor.2.1 105 = .ok (.iconst 1, 1) := by decide +kernel
theorem d_TrustDeskModel_factor_106 : decode kY_TrustDeskModel_factor.2.1 106 = .ok (.isub, 1) := by decide +kernel
theorem d_TrustDeskModel_factor_107 : decode kY_TrustDeskModel_factor.2.1 107 = .ok (.putfield 276, 3) := by decide +kernel
theorem d_TrustDeskModel_factor_110 : decode kY_TrustDeskModel_factor.2.1 110 = .ok (.goto 8, 3) := by decide +kernel
theorem d_TrustDeskModel_factor_39 : decode kY_TrustDeskModel_factor.2.1 39 = .ok (.aload_n 0, 1) := by decide +kernel
theorem d_TrustDeskModel_factor_40 : decode kY_TrustDeskModel_factor.2.1 40 = .ok (.invokevirtual 282, 3) := by decide +kernel
abbrev kY_TrustDeskModel_name : mj_Y := (⟨"TrustDeskModel", "name", "()I"⟩, prog_14_method_23_code, 2, (Option.some Jvm.ClassFile.FieldType.int))
theorem d_TrustDeskModel_name_0 : decode kY_TrustDeskModel_name.2.1 0 = .ok (.aload_n 0, 1) := by decide +kernel
theorem d_TrustDeskModel_name_1 : decode kY_TrustDeskModel_name.2.1 1 = .ok (.ldc 248, 2) := by decide +kernel
theorem d_TrustDeskModel_name_3 : decode kY_TrustDeskModel_name.2.1 3 = .ok (.invokevirtual 244, 3) := by decide +kernel
abbrev kY_TrustDeskModel_isWord : mj_Y := (⟨"TrustDeskModel", "isWord", "(Ljava/lang/String;)Z"⟩, prog_14_method_17_code, 3, (Option.some Jvm.ClassFile.FieldType.boolean))
theorem d_TrustDeskModel_isWord_0 : decode kY_TrustDeskModel_isWord.2.1 0 = .ok (.aload_n 0, 1) := by decide +kernel
theorem d_TrustDeskModel_isWord_1 : decode kY_TrustDeskModel_isWord.2.1 1 = .ok (.getfield 198, 3) := by decide +kernel
theorem d_TrustDeskModel_isWord_4 : decode kY_TrustDeskModel_isWord.2.1 4 = .ok (.iconst 3, 1) := by decide +kernel
theorem d_TrustDeskModel_isWord_5 : decode kY_TrustDeskModel_isWord.2.1 5 = .ok (.if_icmp .ne 19, 3) := by decide +kernel
theorem d_TrustDeskModel_isWord_24 : decode kY_TrustDeskModel_isWord.2.1 24 = .ok (.iconst 0, 1) := by decide +kernel
theorem d_TrustDeskModel_isWord_25 : decode kY_TrustDeskModel_isWord.2.1 25 = .ok (.ireturn, 1) := by decide +kernel
theorem d_TrustDeskModel_isWord_8 : decode kY_TrustDeskModel_isWord.2.1 8 = .ok (.aload_n 0, 1) := by decide +kernel
theorem d_TrustDeskModel_isWord_9 : decode kY_TrustDeskModel_isWord.2.1 9 = .ok (.getfield 192, 3) := by decide +kernel
theorem d_TrustDeskModel_isWord_12 : decode kY_TrustDeskModel_isWord.2.1 12 = .ok (.aload_n 0, 1) := by decide +kernel
theorem d_TrustDeskModel_isWord_13 : decode kY_TrustDeskModel_isWord.2.1 13 = .ok (.getfield 195, 3) := by decide +kernel
theorem d_TrustDeskModel_isWord_16 : decode kY_TrustDeskModel_isWord.2.1 16 = .ok (.isub, 1) := by decide +kernel
theorem d_TrustDeskModel_isWord_17 : decode kY_TrustDeskModel_isWord.2.1 17 = .ok (.aload_n 1, 1) := by decide +kernel
theorem d_TrustDeskModel_isWord_18 : decode kY_TrustDeskModel_isWord.2.1 18 = .ok (.invokevirtual 214, 3) := by decide +kernel
theorem lV_TrustDeskModel_214 : mj_lV "TrustDeskModel" 214 kY_String_length 0 := ⟨⟨(mj_in1 (List.mem_of_getElem? (i := 1679) (by decide +kernel)) rfl), (mj_in1 (List.mem_of_getElem? (i := 11) (by decide +kernel)) rfl), (mj_in1 (List.mem_of_getElem? (i := 393) (by decide +kernel)) rfl), by decide, rfl, by decide⟩, (mj_in1 (List.mem_of_getElem? (i := 391) (by decide +kernel)) rfl), (mj_in1 (List.mem_of_getElem? (i := 392) (by decide +kernel)) rfl)⟩
theorem d_TrustDeskModel_isWord_21 : decode kY_TrustDeskModel_isWord.2.1 21 = .ok (.if_icmp .eq 5, 3) := by decide +kernel
theorem d_TrustDeskModel_isWord_26 : decode kY_TrustDeskModel_isWord.2.1 26 = .ok (.iconst 0, 1) := by decide +kernel
theorem d_TrustDeskModel_isWord_27 : decode kY_TrustDeskModel_isWord.2.1 27 = .ok (.istore_n 2, 1) := by decide +kernel
theorem d_TrustDeskModel_isWord_28 : decode kY_TrustDeskModel_isWord.2.1 28 = .ok (.iload_n 2, 1) := by decide +kernel
theorem d_TrustDeskModel_isWord_29 : decode kY_TrustDeskModel_isWord.2.1 29 = .ok (.aload_n 1, 1) := by decide +kernel
theorem d_TrustDeskModel_isWord_30 : decode kY_TrustDeskModel_isWord.2.1 30 = .ok (.invokevirtual 214, 3) := by decide +kernel
theorem d_TrustDeskModel_isWord_33 : decode kY_TrustDeskModel_isWord.2.1 33 = .ok (.if_icmp .ge 30, 3) := by decide +kernel
theorem d_TrustDeskModel_isWord_63 : decode kY_TrustDeskModel_isWord.2.1 63 = .ok (.iconst 1, 1) := by decide +kernel
theorem d_TrustDeskModel_isWord_64 : decode kY_TrustDeskModel_isWord.2.1 64 = .ok (.ireturn, 1) := by decide +kernel
theorem d_TrustDeskModel_isWord_36 : decode kY_TrustDeskModel_isWord.2.1 36 = .ok (.aload_n 0, 1) := by decide +kernel
theorem d_TrustDeskModel_isWord_37 : decode kY_TrustDeskModel_isWord.2.1 37 = .ok (.getfield 44, 3) := by decide +kernel
theorem d_TrustDeskModel_isWord_40 : decode kY_TrustDeskModel_isWord.2.1 40 = .ok (.aload_n 0, 1) := by decide +kernel
theorem d_TrustDeskModel_isWord_41 : decode kY_TrustDeskModel_isWord.2.1 41 = .ok (.getfield 195, 3) := by decide +kernel
theorem d_TrustDeskModel_isWord_44 : decode kY_TrustDeskModel_isWord.2.1 44 = .ok (.iload_n 2, 1) := by decide +kernel
theorem d_TrustDeskModel_isWord_45 : decode kY_TrustDeskModel_isWord.2.1 45 = .ok (.iadd, 1) := by decide +kernel
theorem d_TrustDeskModel_isWord_46 : decode kY_TrustDeskModel_isWord.2.1 46 = .ok (.baload, 1) := by decide +kernel
theorem d_TrustDeskModel_isWord_47 : decode kY_TrustDeskModel_isWord.2.1 47 = .ok (.aload_n 1, 1) := by decide +kernel
theorem d_TrustDeskModel_isWord_48 : decode kY_TrustDeskModel_isWord.2.1 48 = .ok (.iload_n 2, 1) := by decide +kernel
theorem d_TrustDeskModel_isWord_49 : decode kY_TrustDeskModel_isWord.2.1 49 = .ok (.invokevirtual 220, 3) := by decide +kernel
theorem lV_TrustDeskModel_220 : mj_lV "TrustDeskModel" 220 kY_String_charAt 1 := ⟨⟨(mj_in1 (List.mem_of_getElem? (i := 1680) (by decide +kernel)) rfl), (mj_in1 (List.mem_of_getElem? (i := 11) (by decide +kernel)) rfl), (mj_in1 (List.mem_of_getElem? (i := 403) (by decide +kernel)) rfl), by decide, rfl, by decide⟩, (mj_in1 (List.mem_of_getElem? (i := 401) (by decide +kernel)) rfl), (mj_in1 (List.mem_of_getElem? (i := 402) (by decide +kernel)) rfl)⟩
theorem d_TrustDeskModel_isWord_52 : decode kY_TrustDeskModel_isWord.2.1 52 = .ok (.if_icmp .eq 5, 3) := by decide +kernel
theorem d_TrustDeskModel_isWord_57 : decode kY_TrustDeskModel_isWord.2.1 57 = .ok (.iinc 2 1, 3) := by decide +kernel
theorem d_TrustDeskModel_isWord_60 : decode kY_TrustDeskModel_isWord.2.1 60 = .ok (.goto (-32), 3) := by decide +kernel
theorem d_TrustDeskModel_isWord_55 : decode kY_TrustDeskModel_isWord.2.1 55 = .ok (.iconst 0, 1) := by decide +kernel
theorem d_TrustDeskModel_isWord_56 : decode kY_TrustDeskModel_isWord.2.1 56 = .ok (.ireturn, 1) := by decide +kernel
def w_TrustDeskModel_isWord_s1_27_x : List Nat := []
theorem tc_TrustDeskModel_isWord_s1_27_x {g : mj_G} {l : Launch} {d : Nat} {T0 : tm_H} {M0 : mj_M} {n0 x9 : Nat} {o0 : Nat} (h_o0 : T0 o0 = some (0, 13, 0)) (yR : rI M0 o0) (I0 : tm_I tm_FT (tm_in w_TrustDeskModel_isWord_s1_27_x) x9 T0 M0 n0 T0 M0 n0) : mj_Met g l kY_TrustDeskModel_isWord (d + 4) [.ref o0, .ref 27] M0 n0 0 0 (tm_Q tm_FT (tm_in w_TrustDeskModel_isWord_s1_27_x) x9 T0 M0 n0 (fun r _ M => ∃ v : Int32, r = some (.int v) ∧ 0 ≤ v.toInt ∧ v.toInt ≤ 1 ∧ rI M o0 ∧ (v.toInt = 1 → rv M0 o0 17 = 3))) := by
  refine mj_enter (by decide) (Nat.le_of_ble_eq_true rfl) ?_
  refine mv_aload_n d_TrustDeskModel_isWord_0 rfl rfl ?_
  obtain ⟨v2, q1⟩ := tm_atI I0 h_o0 (k := 17) rfl
  refine tr_getK q1 d_TrustDeskModel_isWord_1 f_TrustDeskModel_198_13 ?_
  have := tm_rv q1
  refine mv_iconst (v := 3) d_TrustDeskModel_isWord_4 (by decide) ?_
  have := mz_hi v2
  refine mv_icmp_neZ (tgt := 24) (a := v2.toInt) (b := 3) d_TrustDeskModel_isWord_5 (by decide) rfl (by decide) (fun b3 => ?_) (fun b3 => ?_)
  · refine mv_iconst (v := 0) d_TrustDeskModel_isWord_24 (by decide) ?_
    exact mv_iret d_TrustDeskModel_isWord_25 rfl (by decide) ⟨_, I0, _, rfl, by decide, by decide, yR, (fun h => absurd h (by decide))⟩
  · refine mv_aload_n d_TrustDeskModel_isWord_8 rfl rfl ?_
    obtain ⟨v5, q4⟩ := tm_atI I0 h_o0 (k := 15) rfl
    refine tr_getK q4 d_TrustDeskModel_isWord_9 f_TrustDeskModel_192_13 ?_
    have := yR.f (k := 15) q4 rfl
    have := tm_rv q4
    refine mv_aload_n d_TrustDeskModel_isWord_12 rfl rfl ?_
    obtain ⟨v7, q6⟩ := tm_atI I0 h_o0 (k := 16) rfl
    refine tr_getK q6 d_TrustDeskModel_isWord_13 f_TrustDeskModel_195_13 ?_
    have := yR.f (k := 16) q6 rfl
    have := tm_rv q6
    refine mv_isub d_TrustDeskModel_isWord_16 ?_
    refine mv_aload_n d_TrustDeskModel_isWord_17 rfl rfl ?_
    refine mv_slenK (i := 17) (v := 4) d_TrustDeskModel_isWord_18 lV_TrustDeskModel_214 (by decide) rfl (by decide) (Nat.le_of_ble_eq_true rfl) ?_
    have b8 : (v5 - v7 : Int32).toInt = (v5.toInt - v7.toInt) := mz_sub2 rfl rfl (by have := yR.1 15 _ _ rfl; have := yR.1 16 _ _ rfl; have := yR.1 19 _ _ rfl; omega) (by have := yR.1 15 _ _ rfl; have := yR.1 16 _ _ rfl; have := yR.1 19 _ _ rfl; omega)
    have := mz_hi (v5 - v7)
    refine mv_icmp_eqZ (tgt := 26) (a := (v5 - v7).toInt) (b := 4) d_TrustDeskModel_isWord_21 (by decide) rfl (by decide) (fun b9 => ?_) (fun b9 => ?_)
    · refine mv_iconst (v := 0) d_TrustDeskModel_isWord_26 (by decide) ?_
      refine mv_istore_n (lv' := [(2, .int 0), (0, .ref o0), (1, .ref 27)]) d_TrustDeskModel_isWord_27 rfl (by decide) rfl ?_
      have L28_10 : ∀ (k : Nat) (i2_10 : Int32) (T_10 : tm_H) (M_10 : mj_M) (n_10 : Nat), tm_I tm_FT (tm_in w_TrustDeskModel_isWord_s1_27_x) x9 T0 M0 n0 T_10 M_10 n_10 → T_10 o0 = some (0, 13, 0) → 0 ≤ i2_10.toInt → rv M_10 o0 15 = rv M0 o0 15 → rv M_10 o0 16 = rv M0 o0 16 → i2_10.toInt ≤ 2147483646 → (rI M_10 o0) → 2147483647 - i2_10.toInt < (k : Int) → mj_V g l kY_TrustDeskModel_isWord (d + 4) 28 [(2, .int i2_10), (0, .ref o0), (1, .ref 27)] [] M_10 n_10 0 0 (tm_Q tm_FT (tm_in w_TrustDeskModel_isWord_s1_27_x) x9 T0 M0 n0 (fun r _ M => ∃ v : Int32, r = some (.int v) ∧ 0 ≤ v.toInt ∧ v.toInt ≤ 1 ∧ rI M o0 ∧ (v.toInt = 1 → rv M0 o0 17 = 3))) := by
        intro k10
        induction k10 with
        | zero =>
          intro i2_10 T_10 M_10 n_10 I_10 h_q0_10 iv0_10 iv1_10 iv2_10 iv3_10 kKR_10 hk10
          have := mz_hi i2_10
          have := kKR_10.1 15 _ _ rfl
          have := kKR_10.1 16 _ _ rfl
          have := kKR_10.1 19 _ _ rfl
          omega
        | succ k10 ih10 =>
          intro i2_10 T_10 M_10 n_10 I_10 h_q0_10 iv0_10 iv1_10 iv2_10 iv3_10 kKR_10 hk10
          refine mv_iload_n d_TrustDeskModel_isWord_28 rfl rfl ?_
          refine mv_aload_n d_TrustDeskModel_isWord_29 rfl rfl ?_
          refine mv_slenK (i := 17) (v := 4) d_TrustDeskModel_isWord_30 lV_TrustDeskModel_214 (by decide) rfl (by decide) (Nat.le_of_ble_eq_true rfl) ?_
          have := mz_hi i2_10
          refine mv_icmp_geZ (tgt := 63) (a := i2_10.toInt) (b := 4) d_TrustDeskModel_isWord_33 (by decide) rfl (by decide) (fun b11 => ?_) (fun b11 => ?_)
          · refine mv_iconst (v := 1) d_TrustDeskModel_isWord_63 (by decide) ?_
            exact mv_iret d_TrustDeskModel_isWord_64 rfl (by decide) ⟨_, I_10, _, rfl, by decide, by decide, kKR_10, (fun _ => by omega)⟩
          · refine mv_aload_n d_TrustDeskModel_isWord_36 rfl rfl ?_
            obtain ⟨a13, q12, t_a13⟩ := tm_atR I_10 h_q0_10 (k := 13) rfl
            refine tr_getK q12 d_TrustDeskModel_isWord_37 f_TrustDeskModel_44_13 ?_
            refine mv_aload_n d_TrustDeskModel_isWord_40 rfl rfl ?_
            obtain ⟨v15, q14⟩ := tm_atI I_10 h_q0_10 (k := 16) rfl
            refine tr_getK q14 d_TrustDeskModel_isWord_41 f_TrustDeskModel_195_13 ?_
            have := kKR_10.f (k := 16) q14 rfl
            have := tm_rv q14
            refine mv_iload_n d_TrustDeskModel_isWord_44 rfl rfl ?_
            refine mv_iadd d_TrustDeskModel_isWord_45 ?_
            have b16 : (v15 + i2_10 : Int32).toInt = (v15.toInt + i2_10.toInt) := mz_add2 rfl rfl (by have := kKR_10.1 15 _ _ rfl; have := kKR_10.1 16 _ _ rfl; have := kKR_10.1 19 _ _ rfl; omega) (by have := kKR_10.1 15 _ _ rfl; have := kKR_10.1 16 _ _ rfl; have := kKR_10.1 19 _ _ rfl; omega)
            refine tr_baldR (o := o0) (k := 13) I_10 q12 t_a13 (by decide) d_TrustDeskModel_isWord_46 (vp_in_iff.mpr (by have := kKR_10.1 15 _ _ rfl; have := kKR_10.1 16 _ _ rfl; have := kKR_10.1 19 _ _ rfl; omega)) (fun v17 e18 => ?_)
            have := kKR_10.a (k := 13) rfl ((v15 + i2_10) : Int32).toNatClampNeg
            refine mv_aload_n d_TrustDeskModel_isWord_47 rfl rfl ?_
            refine mv_iload_n d_TrustDeskModel_isWord_48 rfl rfl ?_
            refine mv_schN (i := 17) (N := 4) d_TrustDeskModel_isWord_49 lV_TrustDeskModel_220 (by decide) rfl rfl (by omega) (by omega) (Nat.le_of_ble_eq_true rfl) (fun v19 => ?_)
            have := mz_hi v17
            have := mz_hi v19
            refine mv_icmp_eqZ (tgt := 57) (a := v17.toInt) (b := v19.toInt) d_TrustDeskModel_isWord_52 (by decide) rfl rfl (fun b20 => ?_) (fun b20 => ?_)
            · refine mv_iinc (v := (i2_10 + 1)) (lv' := [(2, .int (i2_10 + 1)), (0, .ref o0), (1, .ref 27)]) d_TrustDeskModel_isWord_57 rfl rfl (by decide) rfl ?_
              refine mv_goto (tgt := 28) d_TrustDeskModel_isWord_60 (by decide) ?_
              have b21 : (i2_10 + 1).toInt = i2_10.toInt + 1 := mz_addn 1 1 (by decide) (by have := mz_lo i2_10; omega) (by have := mz_hi i2_10; omega)
              exact (ih10 (i2_10 + 1) T_10 M_10 n_10 I_10 h_q0_10 (by have := kKR_10.1 15 _ _ rfl; have := kKR_10.1 16 _ _ rfl; have := kKR_10.1 19 _ _ rfl; first | omega | decide) (by have := kKR_10.1 15 _ _ rfl; have := kKR_10.1 16 _ _ rfl; have := kKR_10.1 19 _ _ rfl; first | omega | decide) (by have := kKR_10.1 15 _ _ rfl; have := kKR_10.1 16 _ _ rfl; have := kKR_10.1 19 _ _ rfl; first | omega | decide) (by have := kKR_10.1 15 _ _ rfl; have := kKR_10.1 16 _ _ rfl; have := kKR_10.1 19 _ _ rfl; first | omega | decide) kKR_10 (by have := kKR_10.1 15 _ _ rfl; have := kKR_10.1 16 _ _ rfl; have := kKR_10.1 19 _ _ rfl; omega))
            · refine mv_iconst (v := 0) d_TrustDeskModel_isWord_55 (by decide) ?_
              exact mv_iret d_TrustDeskModel_isWord_56 rfl (by decide) ⟨_, I_10, _, rfl, by decide, by decide, kKR_10, (fun h => absurd h (by decide))⟩
      exact mv_less (Nat.zero_le _) (Nat.zero_le _) (L28_10 4294967296 0 T0 M0 n0 I0 h_o0 (by have := yR.1 15 _ _ rfl; have := yR.1 16 _ _ rfl; have := yR.1 19 _ _ rfl; first | omega | decide) (by have := yR.1 15 _ _ rfl; have := yR.1 16 _ _ rfl; have := yR.1 19 _ _ rfl; first | omega | decide) (by have := yR.1 15 _ _ rfl; have := yR.1 16 _ _ rfl; have := yR.1 19 _ _ rfl; first | omega | decide) (by have := yR.1 15 _ _ rfl; have := yR.1 16 _ _ rfl; have := yR.1 19 _ _ rfl; first | omega | decide) yR (by show (2147483647 - (0 : Int) : Int) < _; decide))
    · refine mv_iconst (v := 0) d_TrustDeskModel_isWord_24 (by decide) ?_
      exact mv_iret d_TrustDeskModel_isWord_25 rfl (by decide) ⟨_, I0, _, rfl, by decide, by decide, yR, (fun h => absurd h (by decide))⟩
theorem lV_TrustDeskModel_244 : mj_lV "TrustDeskModel" 244 kY_TrustDeskModel_isWord 1 := ⟨⟨(mj_in1 (List.mem_of_getElem? (i := 1675) (by decide +kernel)) rfl), (mj_in1 (List.mem_of_getElem? (i := 10) (by decide +kernel)) rfl), (mj_in1 (List.mem_of_getElem? (i := 1678) (by decide +kernel)) rfl), by decide, rfl, by decide⟩, (mj_in1 (List.mem_of_getElem? (i := 1677) (by decide +kernel)) rfl), (mj_in (List.mem_append_left _ (List.mem_of_getElem? (i := 86) (by decide +kernel))) rfl)⟩
theorem d_TrustDeskModel_name_6 : decode kY_TrustDeskModel_name.2.1 6 = .ok (.ifCond .eq 7, 3) := by decide +kernel
theorem d_TrustDeskModel_name_13 : decode kY_TrustDeskModel_name.2.1 13 = .ok (.aload_n 0, 1) := by decide +kernel
theorem d_TrustDeskModel_name_14 : decode kY_TrustDeskModel_name.2.1 14 = .ok (.ldc 250, 2) := by decide +kernel
theorem d_TrustDeskModel_name_16 : decode kY_TrustDeskModel_name.2.1 16 = .ok (.invokevirtual 244, 3) := by decide +kernel
def w_TrustDeskModel_isWord_s1_28_x : List Nat := []
theorem tc_TrustDeskModel_isWord_s1_28_x {g : mj_G} {l : Launch} {d : Nat} {T0 : tm_H} {M0 : mj_M} {n0 x9 : Nat} {o0 : Nat} (h_o0 : T0 o0 = some (0, 13, 0)) (yR : rI M0 o0) (I0 : tm_I tm_FT (tm_in w_TrustDeskModel_isWord_s1_28_x) x9 T0 M0 n0 T0 M0 n0) : mj_Met g l kY_TrustDeskModel_isWord (d + 4) [.ref o0, .ref 28] M0 n0 0 0 (tm_Q tm_FT (tm_in w_TrustDeskModel_isWord_s1_28_x) x9 T0 M0 n0 (fun r _ M => ∃ v : Int32, r = some (.int v) ∧ 0 ≤ v.toInt ∧ v.toInt ≤ 1 ∧ rI M o0 ∧ (v.toInt = 1 → rv M0 o0 17 = 3))) := by
  refine mj_enter (by decide) (Nat.le_of_ble_eq_true rfl) ?_
  refine mv_aload_n d_TrustDeskModel_isWord_0 rfl rfl ?_
  obtain ⟨v2, q1⟩ := tm_atI I0 h_o0 (k := 17) rfl
  refine tr_getK q1 d_TrustDeskModel_isWord_1 f_TrustDeskModel_198_13 ?_
  have := tm_rv q1
  refine mv_iconst (v := 3) d_TrustDeskModel_isWord_4 (by decide) ?_
  have := mz_hi v2
  refine mv_icmp_neZ (tgt := 24) (a := v2.toInt) (b := 3) d_TrustDeskModel_isWord_5 (by decide) rfl (by decide) (fun b3 => ?_) (fun b3 => ?_)
  · refine mv_iconst (v := 0) d_TrustDeskModel_isWord_24 (by decide) ?_
    exact mv_iret d_TrustDeskModel_isWord_25 rfl (by decide) ⟨_, I0, _, rfl, by decide, by decide, yR, (fun h => absurd h (by decide))⟩
  · refine mv_aload_n d_TrustDeskModel_isWord_8 rfl rfl ?_
    obtain ⟨v5, q4⟩ := tm_atI I0 h_o0 (k := 15) rfl
    refine tr_getK q4 d_TrustDeskModel_isWord_9 f_TrustDeskModel_192_13 ?_
    have := yR.f (k := 15) q4 rfl
    have := tm_rv q4
    refine mv_aload_n d_TrustDeskModel_isWord_12 rfl rfl ?_
    obtain ⟨v7, q6⟩ := tm_atI I0 h_o0 (k := 16) rfl
    refine tr_getK q6 d_TrustDeskModel_isWord_13 f_TrustDeskModel_195_13 ?_
    have := yR.f (k := 16) q6 rfl
    have := tm_rv q6
    refine mv_isub d_TrustDeskModel_isWord_16 ?_
    refine mv_aload_n d_TrustDeskModel_isWord_17 rfl rfl ?_
    refine mv_slenK (i := 18) (v := 5) d_TrustDeskModel_isWord_18 lV_TrustDeskModel_214 (by decide) rfl (by decide) (Nat.le_of_ble_eq_true rfl) ?_
    have b8 : (v5 - v7 : Int32).toInt = (v5.toInt - v7.toInt) := mz_sub2 rfl rfl (by have := yR.1 15 _ _ rfl; have := yR.1 16 _ _ rfl; have := yR.1 19 _ _ rfl; omega) (by have := yR.1 15 _ _ rfl; have := yR.1 16 _ _ rfl; have := yR.1 19 _ _ rfl; omega)
    have := mz_hi (v5 - v7)
    refine mv_icmp_eqZ (tgt := 26) (a := (v5 - v7).toInt) (b := 5) d_TrustDeskModel_isWord_21 (by decide) rfl (by decide) (fun b9 => ?_) (fun b9 => ?_)
    · refine mv_iconst (v := 0) d_TrustDeskModel_isWord_26 (by decide) ?_
      refine mv_istore_n (lv' := [(2, .int 0), (0, .ref o0), (1, .ref 28)]) d_TrustDeskModel_isWord_27 rfl (by decide) rfl ?_
      have L28_10 : ∀ (k : Nat) (i2_10 : Int32) (T_10 : tm_H) (M_10 : mj_M) (n_10 : Nat), tm_I tm_FT (tm_in w_TrustDeskModel_isWord_s1_28_x) x9 T0 M0 n0 T_10 M_10 n_10 → T_10 o0 = some (0, 13, 0) → 0 ≤ i2_10.toInt → rv M_10 o0 15 = rv M0 o0 15 → rv M_10 o0 16 = rv M0 o0 16 → i2_10.toInt ≤ 2147483646 → (rI M_10 o0) → 2147483647 - i2_10.toInt < (k : Int) → mj_V g l kY_TrustDeskModel_isWord (d + 4) 28 [(2, .int i2_10), (0, .ref o0), (1, .ref 28)] [] M_10 n_10 0 0 (tm_Q tm_FT (tm_in w_TrustDeskModel_isWord_s1_28_x) x9 T0 M0 n0 (fun r _ M => ∃ v : Int32, r = some (.int v) ∧ 0 ≤ v.toInt ∧ v.toInt ≤ 1 ∧ rI M o0 ∧ (v.toInt = 1 → rv M0 o0 17 = 3))) := by
        intro k10
        induction k10 with
        | zero =>
          intro i2_10 T_10 M_10 n_10 I_10 h_q0_10 iv0_10 iv1_10 iv2_10 iv3_10 kKR_10 hk10
          have := mz_hi i2_10
          have := kKR_10.1 15 _ _ rfl
          have := kKR_10.1 16 _ _ rfl
          have := kKR_10.1 19 _ _ rfl
          omega
        | succ k10 ih10 =>
          intro i2_10 T_10 M_10 n_10 I_10 h_q0_10 iv0_10 iv1_10 iv2_10 iv3_10 kKR_10 hk10
          refine mv_iload_n d_TrustDeskModel_isWord_28 rfl rfl ?_
          refine mv_aload_n d_TrustDeskModel_isWord_29 rfl rfl ?_
          refine mv_slenK (i := 18) (v := 5) d_TrustDeskModel_isWord_30 lV_TrustDeskModel_214 (by decide) rfl (by decide) (Nat.le_of_ble_eq_true rfl) ?_
          have := mz_hi i2_10
          refine mv_icmp_geZ (tgt := 63) (a := i2_10.toInt) (b := 5) d_TrustDeskModel_isWord_33 (by decide) rfl (by decide) (fun b11 => ?_) (fun b11 => ?_)
          · refine mv_iconst (v := 1) d_TrustDeskModel_isWord_63 (by decide) ?_
            exact mv_iret d_TrustDeskModel_isWord_64 rfl (by decide) ⟨_, I_10, _, rfl, by decide, by decide, kKR_10, (fun _ => by omega)⟩
          · refine mv_aload_n d_TrustDeskModel_isWord_36 rfl rfl ?_
            obtain ⟨a13, q12, t_a13⟩ := tm_atR I_10 h_q0_10 (k := 13) rfl
            refine tr_getK q12 d_TrustDeskModel_isWord_37 f_TrustDeskModel_44_13 ?_
            refine mv_aload_n d_TrustDeskModel_isWord_40 rfl rfl ?_
            obtain ⟨v15, q14⟩ := tm_atI I_10 h_q0_10 (k := 16) rfl
            refine tr_getK q14 d_TrustDeskModel_isWord_41 f_TrustDeskModel_195_13 ?_
            have := kKR_10.f (k := 16) q14 rfl
            have := tm_rv q14
            refine mv_iload_n d_TrustDeskModel_isWord_44 rfl rfl ?_
            refine mv_iadd d_TrustDeskModel_isWord_45 ?_
            have b16 : (v15 + i2_10 : Int32).toInt = (v15.toInt + i2_10.toInt) := mz_add2 rfl rfl (by have := kKR_10.1 15 _ _ rfl; have := kKR_10.1 16 _ _ rfl; have := kKR_10.1 19 _ _ rfl; omega) (by have := kKR_10.1 15 _ _ rfl; have := kKR_10.1 16 _ _ rfl; have := kKR_10.1 19 _ _ rfl; omega)
            refine tr_baldR (o := o0) (k := 13) I_10 q12 t_a13 (by decide) d_TrustDeskModel_isWord_46 (vp_in_iff.mpr (by have := kKR_10.1 15 _ _ rfl; have := kKR_10.1 16 _ _ rfl; have := kKR_10.1 19 _ _ rfl; omega)) (fun v17 e18 => ?_)
            have := kKR_10.a (k := 13) rfl ((v15 + i2_10) : Int32).toNatClampNeg
            refine mv_aload_n d_TrustDeskModel_isWord_47 rfl rfl ?_
            refine mv_iload_n d_TrustDeskModel_isWord_48 rfl rfl ?_
            refine mv_schN (i := 18) (N := 5) d_TrustDeskModel_isWord_49 lV_TrustDeskModel_220 (by decide) rfl rfl (by omega) (by omega) (Nat.le_of_ble_eq_true rfl) (fun v19 => ?_)
            have := mz_hi v17
            have := mz_hi v19
            refine mv_icmp_eqZ (tgt := 57) (a := v17.toInt) (b := v19.toInt) d_TrustDeskModel_isWord_52 (by decide) rfl rfl (fun b20 => ?_) (fun b20 => ?_)
            · refine mv_iinc (v := (i2_10 + 1)) (lv' := [(2, .int (i2_10 + 1)), (0, .ref o0), (1, .ref 28)]) d_TrustDeskModel_isWord_57 rfl rfl (by decide) rfl ?_
              refine mv_goto (tgt := 28) d_TrustDeskModel_isWord_60 (by decide) ?_
              have b21 : (i2_10 + 1).toInt = i2_10.toInt + 1 := mz_addn 1 1 (by decide) (by have := mz_lo i2_10; omega) (by have := mz_hi i2_10; omega)
              exact (ih10 (i2_10 + 1) T_10 M_10 n_10 I_10 h_q0_10 (by have := kKR_10.1 15 _ _ rfl; have := kKR_10.1 16 _ _ rfl; have := kKR_10.1 19 _ _ rfl; first | omega | decide) (by have := kKR_10.1 15 _ _ rfl; have := kKR_10.1 16 _ _ rfl; have := kKR_10.1 19 _ _ rfl; first | omega | decide) (by have := kKR_10.1 15 _ _ rfl; have := kKR_10.1 16 _ _ rfl; have := kKR_10.1 19 _ _ rfl; first | omega | decide) (by have := kKR_10.1 15 _ _ rfl; have := kKR_10.1 16 _ _ rfl; have := kKR_10.1 19 _ _ rfl; first | omega | decide) kKR_10 (by have := kKR_10.1 15 _ _ rfl; have := kKR_10.1 16 _ _ rfl; have := kKR_10.1 19 _ _ rfl; omega))
            · refine mv_iconst (v := 0) d_TrustDeskModel_isWord_55 (by decide) ?_
              exact mv_iret d_TrustDeskModel_isWord_56 rfl (by decide) ⟨_, I_10, _, rfl, by decide, by decide, kKR_10, (fun h => absurd h (by decide))⟩
      exact mv_less (Nat.zero_le _) (Nat.zero_le _) (L28_10 4294967296 0 T0 M0 n0 I0 h_o0 (by have := yR.1 15 _ _ rfl; have := yR.1 16 _ _ rfl; have := yR.1 19 _ _ rfl; first | omega | decide) (by have := yR.1 15 _ _ rfl; have := yR.1 16 _ _ rfl; have := yR.1 19 _ _ rfl; first | omega | decide) (by have := yR.1 15 _ _ rfl; have := yR.1 16 _ _ rfl; have := yR.1 19 _ _ rfl; first | omega | decide) (by have := yR.1 15 _ _ rfl; have := yR.1 16 _ _ rfl; have := yR.1 19 _ _ rfl; first | omega | decide) yR (by show (2147483647 - (0 : Int) : Int) < _; decide))
    · refine mv_iconst (v := 0) d_TrustDeskModel_isWord_24 (by decide) ?_
      exact mv_iret d_TrustDeskModel_isWord_25 rfl (by decide) ⟨_, I0, _, rfl, by decide, by decide, yR, (fun h => absurd h (by decide))⟩
theorem d_TrustDeskModel_name_19 : decode kY_TrustDeskModel_name.2.1 19 = .ok (.ifCond .eq 7, 3) := by decide +kernel
theorem d_TrustDeskModel_name_26 : decode kY_TrustDeskModel_name.2.1 26 = .ok (.aload_n 0, 1) := by decide +kernel
theorem d_TrustDeskModel_name_27 : decode kY_TrustDeskModel_name.2.1 27 = .ok (.ldc 252, 2) := by decide +kernel
theorem d_TrustDeskModel_name_29 : decode kY_TrustDeskModel_name.2.1 29 = .ok (.invokevirtual 244, 3) := by decide +kernel
def w_TrustDeskModel_isWord_s1_29_x : List Nat := []
theorem tc_TrustDeskModel_isWord_s1_29_x {g : mj_G} {l : Launch} {d : Nat} {T0 : tm_H} {M0 : mj_M} {n0 x9 : Nat} {o0 : Nat} (h_o0 : T0 o0 = some (0, 13, 0)) (yR : rI M0 o0) (I0 : tm_I tm_FT (tm_in w_TrustDeskModel_isWord_s1_29_x) x9 T0 M0 n0 T0 M0 n0) : mj_Met g l kY_TrustDeskModel_isWord (d + 4) [.ref o0, .ref 29] M0 n0 0 0 (tm_Q tm_FT (tm_in w_TrustDeskModel_isWord_s1_29_x) x9 T0 M0 n0 (fun r _ M => ∃ v : Int32, r = some (.int v) ∧ 0 ≤ v.toInt ∧ v.toInt ≤ 1 ∧ rI M o0 ∧ (v.toInt = 1 → rv M0 o0 17 = 3))) := by
  refine mj_enter (by decide) (Nat.le_of_ble_eq_true rfl) ?_
  refine mv_aload_n d_TrustDeskModel_isWord_0 rfl rfl ?_
  obtain ⟨v2, q1⟩ := tm_atI I0 h_o0 (k := 17) rfl
  refine tr_getK q1 d_TrustDeskModel_isWord_1 f_TrustDeskModel_198_13 ?_
  have := tm_rv q1
  refine mv_iconst (v := 3) d_TrustDeskModel_isWord_4 (by decide) ?_
  have := mz_hi v2
  refine mv_icmp_neZ (tgt := 24) (a := v2.toInt) (b := 3) d_TrustDeskModel_isWord_5 (by decide) rfl (by decide) (fun b3 => ?_) (fun b3 => ?_)
  · refine mv_iconst (v := 0) d_TrustDeskModel_isWord_24 (by decide) ?_
    exact mv_iret d_TrustDeskModel_isWord_25 rfl (by decide) ⟨_, I0, _, rfl, by decide, by decide, yR, (fun h => absurd h (by decide))⟩
  · refine mv_aload_n d_TrustDeskModel_isWord_8 rfl rfl ?_
    obtain ⟨v5, q4⟩ := tm_atI I0 h_o0 (k := 15) rfl
    refine tr_getK q4 d_TrustDeskModel_isWord_9 f_TrustDeskModel_192_13 ?_
    have := yR.f (k := 15) q4 rfl
    have := tm_rv q4
    refine mv_aload_n d_TrustDeskModel_isWord_12 rfl rfl ?_
    obtain ⟨v7, q6⟩ := tm_atI I0 h_o0 (k := 16) rfl
    refine tr_getK q6 d_TrustDeskModel_isWord_13 f_TrustDeskModel_195_13 ?_
    have := yR.f (k := 16) q6 rfl
    have := tm_rv q6
    refine mv_isub d_TrustDeskModel_isWord_16 ?_
    refine mv_aload_n d_TrustDeskModel_isWord_17 rfl rfl ?_
    refine mv_slenK (i := 19) (v := 4) d_TrustDeskModel_isWord_18 lV_TrustDeskModel_214 (by decide) rfl (by decide) (Nat.le_of_ble_eq_true rfl) ?_
    have b8 : (v5 - v7 : Int32).toInt = (v5.toInt - v7.toInt) := mz_sub2 rfl rfl (by have := yR.1 15 _ _ rfl; have := yR.1 16 _ _ rfl; have := yR.1 19 _ _ rfl; omega) (by have := yR.1 15 _ _ rfl; have := yR.1 16 _ _ rfl; have := yR.1 19 _ _ rfl; omega)
    have := mz_hi (v5 - v7)
    refine mv_icmp_eqZ (tgt := 26) (a := (v5 - v7).toInt) (b := 4) d_TrustDeskModel_isWord_21 (by decide) rfl (by decide) (fun b9 => ?_) (fun b9 => ?_)
    · refine mv_iconst (v := 0) d_TrustDeskModel_isWord_26 (by decide) ?_
      refine mv_istore_n (lv' := [(2, .int 0), (0, .ref o0), (1, .ref 29)]) d_TrustDeskModel_isWord_27 rfl (by decide) rfl ?_
      have L28_10 : ∀ (k : Nat) (i2_10 : Int32) (T_10 : tm_H) (M_10 : mj_M) (n_10 : Nat), tm_I tm_FT (tm_in w_TrustDeskModel_isWord_s1_29_x) x9 T0 M0 n0 T_10 M_10 n_10 → T_10 o0 = some (0, 13, 0) → 0 ≤ i2_10.toInt → rv M_10 o0 15 = rv M0 o0 15 → rv M_10 o0 16 = rv M0 o0 16 → i2_10.toInt ≤ 2147483646 → (rI M_10 o0) → 2147483647 - i2_10.toInt < (k : Int) → mj_V g l kY_TrustDeskModel_isWord (d + 4) 28 [(2, .int i2_10), (0, .ref o0), (1, .ref 29)] [] M_10 n_10 0 0 (tm_Q tm_FT (tm_in w_TrustDeskModel_isWord_s1_29_x) x9 T0 M0 n0 (fun r _ M => ∃ v : Int32, r = some (.int v) ∧ 0 ≤ v.toInt ∧ v.toInt ≤ 1 ∧ rI M o0 ∧ (v.toInt = 1 → rv M0 o0 17 = 3))) := by
        intro k10
        induction k10 with
        | zero =>
          intro i2_10 T_10 M_10 n_10 I_10 h_q0_10 iv0_10 iv1_10 iv2_10 iv3_10 kKR_10 hk10
          have := mz_hi i2_10
          have := kKR_10.1 15 _ _ rfl
          have := kKR_10.1 16 _ _ rfl
          have := kKR_10.1 19 _ _ rfl
          omega
        | succ k10 ih10 =>
          intro i2_10 T_10 M_10 n_10 I_10 h_q0_10 iv0_10 iv1_10 iv2_10 iv3_10 kKR_10 hk10
          refine mv_iload_n d_TrustDeskModel_isWord_28 rfl rfl ?_
          refine mv_aload_n d_TrustDeskModel_isWord_29 rfl rfl ?_
          refine mv_slenK (i := 19) (v := 4) d_TrustDeskModel_isWord_30 lV_TrustDeskModel_214 (by decide) rfl (by decide) (Nat.le_of_ble_eq_true rfl) ?_
          have := mz_hi i2_10
          refine mv_icmp_geZ (tgt := 63) (a := i2_10.toInt) (b := 4) d_TrustDeskModel_isWord_33 (by decide) rfl (by decide) (fun b11 => ?_) (fun b11 => ?_)
          · refine mv_iconst (v := 1) d_TrustDeskModel_isWord_63 (by decide) ?_
            exact mv_iret d_TrustDeskModel_isWord_64 rfl (by decide) ⟨_, I_10, _, rfl, by decide, by decide, kKR_10, (fun _ => by omega)⟩
          · refine mv_aload_n d_TrustDeskModel_isWord_36 rfl rfl ?_
            obtain ⟨a13, q12, t_a13⟩ := tm_atR I_10 h_q0_10 (k := 13) rfl
            refine tr_getK q12 d_TrustDeskModel_isWord_37 f_TrustDeskModel_44_13 ?_
            refine mv_aload_n d_TrustDeskModel_isWord_40 rfl rfl ?_
            obtain ⟨v15, q14⟩ := tm_atI I_10 h_q0_10 (k := 16) rfl
            refine tr_getK q14 d_TrustDeskModel_isWord_41 f_TrustDeskModel_195_13 ?_
            have := kKR_10.f (k := 16) q14 rfl
            have := tm_rv q14
            refine mv_iload_n d_TrustDeskModel_isWord_44 rfl rfl ?_
            refine mv_iadd d_TrustDeskModel_isWord_45 ?_
            have b16 : (v15 + i2_10 : Int32).toInt = (v15.toInt + i2_10.toInt) := mz_add2 rfl rfl (by have := kKR_10.1 15 _ _ rfl; have := kKR_10.1 16 _ _ rfl; have := kKR_10.1 19 _ _ rfl; omega) (by have := kKR_10.1 15 _ _ rfl; have := kKR_10.1 16 _ _ rfl; have := kKR_10.1 19 _ _ rfl; omega)
            refine tr_baldR (o := o0) (k := 13) I_10 q12 t_a13 (by decide) d_TrustDeskModel_isWord_46 (vp_in_iff.mpr (by have := kKR_10.1 15 _ _ rfl; have := kKR_10.1 16 _ _ rfl; have := kKR_10.1 19 _ _ rfl; omega)) (fun v17 e18 => ?_)
            have := kKR_10.a (k := 13) rfl ((v15 + i2_10) : Int32).toNatClampNeg
            refine mv_aload_n d_TrustDeskModel_isWord_47 rfl rfl ?_
            refine mv_iload_n d_TrustDeskModel_isWord_48 rfl rfl ?_
            refine mv_schN (i := 19) (N := 4) d_TrustDeskModel_isWord_49 lV_TrustDeskModel_220 (by decide) rfl rfl (by omega) (by omega) (Nat.le_of_ble_eq_true rfl) (fun v19 => ?_)
            have := mz_hi v17
            have := mz_hi v19
            refine mv_icmp_eqZ (tgt := 57) (a := v17.toInt) (b := v19.toInt) d_TrustDeskModel_isWord_52 (by decide) rfl rfl (fun b20 => ?_) (fun b20 => ?_)
            · refine mv_iinc (v := (i2_10 + 1)) (lv' := [(2, .int (i2_10 + 1)), (0, .ref o0), (1, .ref 29)]) d_TrustDeskModel_isWord_57 rfl rfl (by decide) rfl ?_
              refine mv_goto (tgt := 28) d_TrustDeskModel_isWord_60 (by decide) ?_
              have b21 : (i2_10 + 1).toInt = i2_10.toInt + 1 := mz_addn 1 1 (by decide) (by have := mz_lo i2_10; omega) (by have := mz_hi i2_10; omega)
              exact (ih10 (i2_10 + 1) T_10 M_10 n_10 I_10 h_q0_10 (by have := kKR_10.1 15 _ _ rfl; have := kKR_10.1 16 _ _ rfl; have := kKR_10.1 19 _ _ rfl; first | omega | decide) (by have := kKR_10.1 15 _ _ rfl; have := kKR_10.1 16 _ _ rfl; have := kKR_10.1 19 _ _ rfl; first | omega | decide) (by have := kKR_10.1 15 _ _ rfl; have := kKR_10.1 16 _ _ rfl; have := kKR_10.1 19 _ _ rfl; first | omega | decide) (by have := kKR_10.1 15 _ _ rfl; have := kKR_10.1 16 _ _ rfl; have := kKR_10.1 19 _ _ rfl; first | omega | decide) kKR_10 (by have := kKR_10.1 15 _ _ rfl; have := kKR_10.1 16 _ _ rfl; have := kKR_10.1 19 _ _ rfl; omega))
            · refine mv_iconst (v := 0) d_TrustDeskModel_isWord_55 (by decide) ?_
              exact mv_iret d_TrustDeskModel_isWord_56 rfl (by decide) ⟨_, I_10, _, rfl, by decide, by decide, kKR_10, (fun h => absurd h (by decide))⟩
      exact mv_less (Nat.zero_le _) (Nat.zero_le _) (L28_10 4294967296 0 T0 M0 n0 I0 h_o0 (by have := yR.1 15 _ _ rfl; have := yR.1 16 _ _ rfl; have := yR.1 19 _ _ rfl; first | omega | decide) (by have := yR.1 15 _ _ rfl; have := yR.1 16 _ _ rfl; have := yR.1 19 _ _ rfl; first | omega | decide) (by have := yR.1 15 _ _ rfl; have := yR.1 16 _ _ rfl; have := yR.1 19 _ _ rfl; first | omega | decide) (by have := yR.1 15 _ _ rfl; have := yR.1 16 _ _ rfl; have := yR.1 19 _ _ rfl; first | omega | decide) yR (by show (2147483647 - (0 : Int) : Int) < _; decide))
    · refine mv_iconst (v := 0) d_TrustDeskModel_isWord_24 (by decide) ?_
      exact mv_iret d_TrustDeskModel_isWord_25 rfl (by decide) ⟨_, I0, _, rfl, by decide, by decide, yR, (fun h => absurd h (by decide))⟩
theorem d_TrustDeskModel_name_32 : decode kY_TrustDeskModel_name.2.1 32 = .ok (.ifCond .eq 7, 3) := by decide +kernel
theorem d_TrustDeskModel_name_39 : decode kY_TrustDeskModel_name.2.1 39 = .ok (.aload_n 0, 1) := by decide +kernel
theorem d_TrustDeskModel_name_40 : decode kY_TrustDeskModel_name.2.1 40 = .ok (.ldc 254, 2) := by decide +kernel
theorem d_TrustDeskModel_name_42 : decode kY_TrustDeskModel_name.2.1 42 = .ok (.invokevirtual 244, 3) := by decide +kernel
def w_TrustDeskModel_isWord_s1_30_x : List Nat := []
theorem tc_TrustDeskModel_isWord_s1_30_x {g : mj_G} {l : Launch} {d : Nat} {T0 : tm_H} {M0 : mj_M} {n0 x9 : Nat} {o0 : Nat} (h_o0 : T0 o0 = some (0, 13, 0)) (yR : rI M0 o0) (I0 : tm_I tm_FT (tm_in w_TrustDeskModel_isWord_s1_30_x) x9 T0 M0 n0 T0 M0 n0) : mj_Met g l kY_TrustDeskModel_isWord (d + 4) [.ref o0, .ref 30] M0 n0 0 0 (tm_Q tm_FT (tm_in w_TrustDeskModel_isWord_s1_30_x) x9 T0 M0 n0 (fun r _ M => ∃ v : Int32, r = some (.int v) ∧ 0 ≤ v.toInt ∧ v.toInt ≤ 1 ∧ rI M o0 ∧ (v.toInt = 1 → rv M0 o0 17 = 3))) := by
  refine mj_enter (by decide) (Nat.le_of_ble_eq_true rfl) ?_
  refine mv_aload_n d_TrustDeskModel_isWord_0 rfl rfl ?_
  obtain ⟨v2, q1⟩ := tm_atI I0 h_o0 (k := 17) rfl
  refine tr_getK q1 d_TrustDeskModel_isWord_1 f_TrustDeskModel_198_13 ?_
  have := tm_rv q1
  refine mv_iconst (v := 3) d_TrustDeskModel_isWord_4 (by decide) ?_
  have := mz_hi v2
  refine mv_icmp_neZ (tgt := 24) (a := v2.toInt) (b := 3) d_TrustDeskModel_isWord_5 (by decide) rfl (by decide) (fun b3 => ?_) (fun b3 => ?_)
  · refine mv_iconst (v := 0) d_TrustDeskModel_isWord_24 (by decide) ?_
    exact mv_iret d_TrustDeskModel_isWord_25 rfl (by decide) ⟨_, I0, _, rfl, by decide, by decide, yR, (fun h => absurd h (by decide))⟩
  · refine mv_aload_n d_TrustDeskModel_isWord_8 rfl rfl ?_
    obtain ⟨v5, q4⟩ := tm_atI I0 h_o0 (k := 15) rfl
    refine tr_getK q4 d_TrustDeskModel_isWord_9 f_TrustDeskModel_192_13 ?_
    have := yR.f (k := 15) q4 rfl
    have := tm_rv q4
    refine mv_aload_n d_TrustDeskModel_isWord_12 rfl rfl ?_
    obtain ⟨v7, q6⟩ := tm_atI I0 h_o0 (k := 16) rfl
    refine tr_getK q6 d_TrustDeskModel_isWord_13 f_TrustDeskModel_195_13 ?_
    have := yR.f (k := 16) q6 rfl
    have := tm_rv q6
    refine mv_isub d_TrustDeskModel_isWord_16 ?_
    refine mv_aload_n d_TrustDeskModel_isWord_17 rfl rfl ?_
    refine mv_slenK (i := 20) (v := 4) d_TrustDeskModel_isWord_18 lV_TrustDeskModel_214 (by decide) rfl (by decide) (Nat.le_of_ble_eq_true rfl) ?_
    have b8 : (v5 - v7 : Int32).toInt = (v5.toInt - v7.toInt) := mz_sub2 rfl rfl (by have := yR.1 15 _ _ rfl; have := yR.1 16 _ _ rfl; have := yR.1 19 _ _ rfl; omega) (by have := yR.1 15 _ _ rfl; have := yR.1 16 _ _ rfl; have := yR.1 19 _ _ rfl; omega)
    have := mz_hi (v5 - v7)
    refine mv_icmp_eqZ (tgt := 26) (a := (v5 - v7).toInt) (b := 4) d_TrustDeskModel_isWord_21 (by decide) rfl (by decide) (fun b9 => ?_) (fun b9 => ?_)
    · refine mv_iconst (v := 0) d_TrustDeskModel_isWord_26 (by decide) ?_
      refine mv_istore_n (lv' := [(2, .int 0), (0, .ref o0), (1, .ref 30)]) d_TrustDeskModel_isWord_27 rfl (by decide) rfl ?_
      have L28_10 : ∀ (k : Nat) (i2_10 : Int32) (T_10 : tm_H) (M_10 : mj_M) (n_10 : Nat), tm_I tm_FT (tm_in w_TrustDeskModel_isWord_s1_30_x) x9 T0 M0 n0 T_10 M_10 n_10 → T_10 o0 = some (0, 13, 0) → 0 ≤ i2_10.toInt → rv M_10 o0 15 = rv M0 o0 15 → rv M_10 o0 16 = rv M0 o0 16 → i2_10.toInt ≤ 2147483646 → (rI M_10 o0) → 2147483647 - i2_10.toInt < (k : Int) → mj_V g l kY_TrustDeskModel_isWord (d + 4) 28 [(2, .int i2_10), (0, .ref o0), (1, .ref 30)] [] M_10 n_10 0 0 (tm_Q tm_FT (tm_in w_TrustDeskModel_isWord_s1_30_x) x9 T0 M0 n0 (fun r _ M => ∃ v : Int32, r = some (.int v) ∧ 0 ≤ v.toInt ∧ v.toInt ≤ 1 ∧ rI M o0 ∧ (v.toInt = 1 → rv M0 o0 17 = 3))) := by
        intro k10
        induction k10 with
        | zero =>
          intro i2_10 T_10 M_10 n_10 I_10 h_q0_10 iv0_10 iv1_10 iv2_10 iv3_10 kKR_10 hk10
          have := mz_hi i2_10
          have := kKR_10.1 15 _ _ rfl
          have := kKR_10.1 16 _ _ rfl
          have := kKR_10.1 19 _ _ rfl
          omega
        | succ k10 ih10 =>
          intro i2_10 T_10 M_10 n_10 I_10 h_q0_10 iv0_10 iv1_10 iv2_10 iv3_10 kKR_10 hk10
          refine mv_iload_n d_TrustDeskModel_isWord_28 rfl rfl ?_
          refine mv_aload_n d_TrustDeskModel_isWord_29 rfl rfl ?_
          refine mv_slenK (i := 20) (v := 4) d_TrustDeskModel_isWord_30 lV_TrustDeskModel_214 (by decide) rfl (by decide) (Nat.le_of_ble_eq_true rfl) ?_
          have := mz_hi i2_10
          refine mv_icmp_geZ (tgt := 63) (a := i2_10.toInt) (b := 4) d_TrustDeskModel_isWord_33 (by decide) rfl (by decide) (fun b11 => ?_) (fun b11 => ?_)
          · refine mv_iconst (v := 1) d_TrustDeskModel_isWord_63 (by decide) ?_
            exact mv_iret d_TrustDeskModel_isWord_64 rfl (by decide) ⟨_, I_10, _, rfl, by decide, by decide, kKR_10, (fun _ => by omega)⟩
          · refine mv_aload_n d_TrustDeskModel_isWord_36 rfl rfl ?_
            obtain ⟨a13, q12, t_a13⟩ := tm_atR I_10 h_q0_10 (k := 13) rfl
            refine tr_getK q12 d_TrustDeskModel_isWord_37 f_TrustDeskModel_44_13 ?_
            refine mv_aload_n d_TrustDeskModel_isWord_40 rfl rfl ?_
            obtain ⟨v15, q14⟩ := tm_atI I_10 h_q0_10 (k := 16) rfl
            refine tr_getK q14 d_TrustDeskModel_isWord_41 f_TrustDeskModel_195_13 ?_
            have := kKR_10.f (k := 16) q14 rfl
            have := tm_rv q14
            refine mv_iload_n d_TrustDeskModel_isWord_44 rfl rfl ?_
            refine mv_iadd d_TrustDeskModel_isWord_45 ?_
            have b16 : (v15 + i2_10 : Int32).toInt = (v15.toInt + i2_10.toInt) := mz_add2 rfl rfl (by have := kKR_10.1 15 _ _ rfl; have := kKR_10.1 16 _ _ rfl; have := kKR_10.1 19 _ _ rfl; omega) (by have := kKR_10.1 15 _ _ rfl; have := kKR_10.1 16 _ _ rfl; have := kKR_10.1 19 _ _ rfl; omega)
            refine tr_baldR (o := o0) (k := 13) I_10 q12 t_a13 (by decide) d_TrustDeskModel_isWord_46 (vp_in_iff.mpr (by have := kKR_10.1 15 _ _ rfl; have := kKR_10.1 16 _ _ rfl; have := kKR_10.1 19 _ _ rfl; omega)) (fun v17 e18 => ?_)
            have := kKR_10.a (k := 13) rfl ((v15 + i2_10) : Int32).toNatClampNeg
            refine mv_aload_n d_TrustDeskModel_isWord_47 rfl rfl ?_
            refine mv_iload_n d_TrustDeskModel_isWord_48 rfl rfl ?_
            refine mv_schN (i := 20) (N := 4) d_TrustDeskModel_isWord_49 lV_TrustDeskModel_220 (by decide) rfl rfl (by omega) (by omega) (Nat.le_of_ble_eq_true rfl) (fun v19 => ?_)
            have := mz_hi v17
            have := mz_hi v19
            refine mv_icmp_eqZ (tgt := 57) (a := v17.toInt) (b := v19.toInt) d_TrustDeskModel_isWord_52 (by decide) rfl rfl (fun b20 => ?_) (fun b20 => ?_)
            · refine mv_iinc (v := (i2_10 + 1)) (lv' := [(2, .int (i2_10 + 1)), (0, .ref o0), (1, .ref 30)]) d_TrustDeskModel_isWord_57 rfl rfl (by decide) rfl ?_
              refine mv_goto (tgt := 28) d_TrustDeskModel_isWord_60 (by decide) ?_
              have b21 : (i2_10 + 1).toInt = i2_10.toInt + 1 := mz_addn 1 1 (by decide) (by have := mz_lo i2_10; omega) (by have := mz_hi i2_10; omega)
              exact (ih10 (i2_10 + 1) T_10 M_10 n_10 I_10 h_q0_10 (by have := kKR_10.1 15 _ _ rfl; have := kKR_10.1 16 _ _ rfl; have := kKR_10.1 19 _ _ rfl; first | omega | decide) (by have := kKR_10.1 15 _ _ rfl; have := kKR_10.1 16 _ _ rfl; have := kKR_10.1 19 _ _ rfl; first | omega | decide) (by have := kKR_10.1 15 _ _ rfl; have := kKR_10.1 16 _ _ rfl; have := kKR_10.1 19 _ _ rfl; first | omega | decide) (by have := kKR_10.1 15 _ _ rfl; have := kKR_10.1 16 _ _ rfl; have := kKR_10.1 19 _ _ rfl; first | omega | decide) kKR_10 (by have := kKR_10.1 15 _ _ rfl; have := kKR_10.1 16 _ _ rfl; have := kKR_10.1 19 _ _ rfl; omega))
            · refine mv_iconst (v := 0) d_TrustDeskModel_isWord_55 (by decide) ?_
              exact mv_iret d_TrustDeskModel_isWord_56 rfl (by decide) ⟨_, I_10, _, rfl, by decide, by decide, kKR_10, (fun h => absurd h (by decide))⟩
      exact mv_less (Nat.zero_le _) (Nat.zero_le _) (L28_10 4294967296 0 T0 M0 n0 I0 h_o0 (by have := yR.1 15 _ _ rfl; have := yR.1 16 _ _ rfl; have := yR.1 19 _ _ rfl; first | omega | decide) (by have := yR.1 15 _ _ rfl; have := yR.1 16 _ _ rfl; have := yR.1 19 _ _ rfl; first | omega | decide) (by have := yR.1 15 _ _ rfl; have := yR.1 16 _ _ rfl; have := yR.1 19 _ _ rfl; first | omega | decide) (by have := yR.1 15 _ _ rfl; have := yR.1 16 _ _ rfl; have := yR.1 19 _ _ rfl; first | omega | decide) yR (by show (2147483647 - (0 : Int) : Int) < _; decide))
    · refine mv_iconst (v := 0) d_TrustDeskModel_isWord_24 (by decide) ?_
      exact mv_iret d_TrustDeskModel_isWord_25 rfl (by decide) ⟨_, I0, _, rfl, by decide, by decide, yR, (fun h => absurd h (by decide))⟩
theorem d_TrustDeskModel_name_45 : decode kY_TrustDeskModel_name.2.1 45 = .ok (.ifCond .eq 7, 3) := by decide +kernel
theorem d_TrustDeskModel_name_52 : decode kY_TrustDeskModel_name.2.1 52 = .ok (.aload_n 0, 1) := by decide +kernel
theorem d_TrustDeskModel_name_53 : decode kY_TrustDeskModel_name.2.1 53 = .ok (.ldc_w 256, 3) := by decide +kernel
theorem d_TrustDeskModel_name_56 : decode kY_TrustDeskModel_name.2.1 56 = .ok (.invokevirtual 244, 3) := by decide +kernel
def w_TrustDeskModel_isWord_s1_31_x : List Nat := []
theorem tc_TrustDeskModel_isWord_s1_31_x {g : mj_G} {l : Launch} {d : Nat} {T0 : tm_H} {M0 : mj_M} {n0 x9 : Nat} {o0 : Nat} (h_o0 : T0 o0 = some (0, 13, 0)) (yR : rI M0 o0) (I0 : tm_I tm_FT (tm_in w_TrustDeskModel_isWord_s1_31_x) x9 T0 M0 n0 T0 M0 n0) : mj_Met g l kY_TrustDeskModel_isWord (d + 4) [.ref o0, .ref 31] M0 n0 0 0 (tm_Q tm_FT (tm_in w_TrustDeskModel_isWord_s1_31_x) x9 T0 M0 n0 (fun r _ M => ∃ v : Int32, r = some (.int v) ∧ 0 ≤ v.toInt ∧ v.toInt ≤ 1 ∧ rI M o0 ∧ (v.toInt = 1 → rv M0 o0 17 = 3))) := by
  refine mj_enter (by decide) (Nat.le_of_ble_eq_true rfl) ?_
  refine mv_aload_n d_TrustDeskModel_isWord_0 rfl rfl ?_
  obtain ⟨v2, q1⟩ := tm_atI I0 h_o0 (k := 17) rfl
  refine tr_getK q1 d_TrustDeskModel_isWord_1 f_TrustDeskModel_198_13 ?_
  have := tm_rv q1
  refine mv_iconst (v := 3) d_TrustDeskModel_isWord_4 (by decide) ?_
  have := mz_hi v2
  refine mv_icmp_neZ (tgt := 24) (a := v2.toInt) (b := 3) d_TrustDeskModel_isWord_5 (by decide) rfl (by decide) (fun b3 => ?_) (fun b3 => ?_)
  · refine mv_iconst (v := 0) d_TrustDeskModel_isWord_24 (by decide) ?_
    exact mv_iret d_TrustDeskModel_isWord_25 rfl (by decide) ⟨_, I0, _, rfl, by decide, by decide, yR, (fun h => absurd h (by decide))⟩
  · refine mv_aload_n d_TrustDeskModel_isWord_8 rfl rfl ?_
    obtain ⟨v5, q4⟩ := tm_atI I0 h_o0 (k := 15) rfl
    refine tr_getK q4 d_TrustDeskModel_isWord_9 f_TrustDeskModel_192_13 ?_
    have := yR.f (k := 15) q4 rfl
    have := tm_rv q4
    refine mv_aload_n d_TrustDeskModel_isWord_12 rfl rfl ?_
    obtain ⟨v7, q6⟩ := tm_atI I0 h_o0 (k := 16) rfl
    refine tr_getK q6 d_TrustDeskModel_isWord_13 f_TrustDeskModel_195_13 ?_
    have := yR.f (k := 16) q6 rfl
    have := tm_rv q6
    refine mv_isub d_TrustDeskModel_isWord_16 ?_
    refine mv_aload_n d_TrustDeskModel_isWord_17 rfl rfl ?_
    refine mv_slenK (i := 21) (v := 5) d_TrustDeskModel_isWord_18 lV_TrustDeskModel_214 (by decide) rfl (by decide) (Nat.le_of_ble_eq_true rfl) ?_
    have b8 : (v5 - v7 : Int32).toInt = (v5.toInt - v7.toInt) := mz_sub2 rfl rfl (by have := yR.1 15 _ _ rfl; have := yR.1 16 _ _ rfl; have := yR.1 19 _ _ rfl; omega) (by have := yR.1 15 _ _ rfl; have := yR.1 16 _ _ rfl; have := yR.1 19 _ _ rfl; omega)
    have := mz_hi (v5 - v7)
    refine mv_icmp_eqZ (tgt := 26) (a := (v5 - v7).toInt) (b := 5) d_TrustDeskModel_isWord_21 (by decide) rfl (by decide) (fun b9 => ?_) (fun b9 => ?_)
    · refine mv_iconst (v := 0) d_TrustDeskModel_isWord_26 (by decide) ?_
      refine mv_istore_n (lv' := [(2, .int 0), (0, .ref o0), (1, .ref 31)]) d_TrustDeskModel_isWord_27 rfl (by decide) rfl ?_
      have L28_10 : ∀ (k : Nat) (i2_10 : Int32) (T_10 : tm_H) (M_10 : mj_M) (n_10 : Nat), tm_I tm_FT (tm_in w_TrustDeskModel_isWord_s1_31_x) x9 T0 M0 n0 T_10 M_10 n_10 → T_10 o0 = some (0, 13, 0) → 0 ≤ i2_10.toInt → rv M_10 o0 15 = rv M0 o0 15 → rv M_10 o0 16 = rv M0 o0 16 → i2_10.toInt ≤ 2147483646 → (rI M_10 o0) → 2147483647 - i2_10.toInt < (k : Int) → mj_V g l kY_TrustDeskModel_isWord (d + 4) 28 [(2, .int i2_10), (0, .ref o0), (1, .ref 31)] [] M_10 n_10 0 0 (tm_Q tm_FT (tm_in w_TrustDeskModel_isWord_s1_31_x) x9 T0 M0 n0 (fun r _ M => ∃ v : Int32, r = some (.int v) ∧ 0 ≤ v.toInt ∧ v.toInt ≤ 1 ∧ rI M o0 ∧ (v.toInt = 1 → rv M0 o0 17 = 3))) := by
        intro k10
        induction k10 with
        | zero =>
          intro i2_10 T_10 M_10 n_10 I_10 h_q0_10 iv0_10 iv1_10 iv2_10 iv3_10 kKR_10 hk10
          have := mz_hi i2_10
          have := kKR_10.1 15 _ _ rfl
          have := kKR_10.1 16 _ _ rfl
          have := kKR_10.1 19 _ _ rfl
          omega
        | succ k10 ih10 =>
          intro i2_10 T_10 M_10 n_10 I_10 h_q0_10 iv0_10 iv1_10 iv2_10 iv3_10 kKR_10 hk10
          refine mv_iload_n d_TrustDeskModel_isWord_28 rfl rfl ?_
          refine mv_aload_n d_TrustDeskModel_isWord_29 rfl rfl ?_
          refine mv_slenK (i := 21) (v := 5) d_TrustDeskModel_isWord_30 lV_TrustDeskModel_214 (by decide) rfl (by decide) (Nat.le_of_ble_eq_true rfl) ?_
          have := mz_hi i2_10
          refine mv_icmp_geZ (tgt := 63) (a := i2_10.toInt) (b := 5) d_TrustDeskModel_isWord_33 (by decide) rfl (by decide) (fun b11 => ?_) (fun b11 => ?_)
          · refine mv_iconst (v := 1) d_TrustDeskModel_isWord_63 (by decide) ?_
            exact mv_iret d_TrustDeskModel_isWord_64 rfl (by decide) ⟨_, I_10, _, rfl, by decide, by decide, kKR_10, (fun _ => by omega)⟩
          · refine mv_aload_n d_TrustDeskModel_isWord_36 rfl rfl ?_
            obtain ⟨a13, q12, t_a13⟩ := tm_atR I_10 h_q0_10 (k := 13) rfl
            refine tr_getK q12 d_TrustDeskModel_isWord_37 f_TrustDeskModel_44_13 ?_
            refine mv_aload_n d_TrustDeskModel_isWord_40 rfl rfl ?_
            obtain ⟨v15, q14⟩ := tm_atI I_10 h_q0_10 (k := 16) rfl
            refine tr_getK q14 d_TrustDeskModel_isWord_41 f_TrustDeskModel_195_13 ?_
            have := kKR_10.f (k := 16) q14 rfl
            have := tm_rv q14
            refine mv_iload_n d_TrustDeskModel_isWord_44 rfl rfl ?_
            refine mv_iadd d_TrustDeskModel_isWord_45 ?_
            have b16 : (v15 + i2_10 : Int32).toInt = (v15.toInt + i2_10.toInt) := mz_add2 rfl rfl (by have := kKR_10.1 15 _ _ rfl; have := kKR_10.1 16 _ _ rfl; have := kKR_10.1 19 _ _ rfl; omega) (by have := kKR_10.1 15 _ _ rfl; have := kKR_10.1 16 _ _ rfl; have := kKR_10.1 19 _ _ rfl; omega)
            refine tr_baldR (o := o0) (k := 13) I_10 q12 t_a13 (by decide) d_TrustDeskModel_isWord_46 (vp_in_iff.mpr (by have := kKR_10.1 15 _ _ rfl; have := kKR_10.1 16 _ _ rfl; have := kKR_10.1 19 _ _ rfl; omega)) (fun v17 e18 => ?_)
            have := kKR_10.a (k := 13) rfl ((v15 + i2_10) : Int32).toNatClampNeg
            refine mv_aload_n d_TrustDeskModel_isWord_47 rfl rfl ?_
            refine mv_iload_n d_TrustDeskModel_isWord_48 rfl rfl ?_
            refine mv_schN (i := 21) (N := 5) d_TrustDeskModel_isWord_49 lV_TrustDeskModel_220 (by decide) rfl rfl (by omega) (by omega) (Nat.le_of_ble_eq_true rfl) (fun v19 => ?_)
            have := mz_hi v17
            have := mz_hi v19
            refine mv_icmp_eqZ (tgt := 57) (a := v17.toInt) (b := v19.toInt) d_TrustDeskModel_isWord_52 (by decide) rfl rfl (fun b20 => ?_) (fun b20 => ?_)
            · refine mv_iinc (v := (i2_10 + 1)) (lv' := [(2, .int (i2_10 + 1)), (0, .ref o0), (1, .ref 31)]) d_TrustDeskModel_isWord_57 rfl rfl (by decide) rfl ?_
              refine mv_goto (tgt := 28) d_TrustDeskModel_isWord_60 (by decide) ?_
              have b21 : (i2_10 + 1).toInt = i2_10.toInt + 1 := mz_addn 1 1 (by decide) (by have := mz_lo i2_10; omega) (by have := mz_hi i2_10; omega)
              exact (ih10 (i2_10 + 1) T_10 M_10 n_10 I_10 h_q0_10 (by have := kKR_10.1 15 _ _ rfl; have := kKR_10.1 16 _ _ rfl; have := kKR_10.1 19 _ _ rfl; first | omega | decide) (by have := kKR_10.1 15 _ _ rfl; have := kKR_10.1 16 _ _ rfl; have := kKR_10.1 19 _ _ rfl; first | omega | decide) (by have := kKR_10.1 15 _ _ rfl; have := kKR_10.1 16 _ _ rfl; have := kKR_10.1 19 _ _ rfl; first | omega | decide) (by have := kKR_10.1 15 _ _ rfl; have := kKR_10.1 16 _ _ rfl; have := kKR_10.1 19 _ _ rfl; first | omega | decide) kKR_10 (by have := kKR_10.1 15 _ _ rfl; have := kKR_10.1 16 _ _ rfl; have := kKR_10.1 19 _ _ rfl; omega))
            · refine mv_iconst (v := 0) d_TrustDeskModel_isWord_55 (by decide) ?_
              exact mv_iret d_TrustDeskModel_isWord_56 rfl (by decide) ⟨_, I_10, _, rfl, by decide, by decide, kKR_10, (fun h => absurd h (by decide))⟩
      exact mv_less (Nat.zero_le _) (Nat.zero_le _) (L28_10 4294967296 0 T0 M0 n0 I0 h_o0 (by have := yR.1 15 _ _ rfl; have := yR.1 16 _ _ rfl; have := yR.1 19 _ _ rfl; first | omega | decide) (by have := yR.1 15 _ _ rfl; have := yR.1 16 _ _ rfl; have := yR.1 19 _ _ rfl; first | omega | decide) (by have := yR.1 15 _ _ rfl; have := yR.1 16 _ _ rfl; have := yR.1 19 _ _ rfl; first | omega | decide) (by have := yR.1 15 _ _ rfl; have := yR.1 16 _ _ rfl; have := yR.1 19 _ _ rfl; first | omega | decide) yR (by show (2147483647 - (0 : Int) : Int) < _; decide))
    · refine mv_iconst (v := 0) d_TrustDeskModel_isWord_24 (by decide) ?_
      exact mv_iret d_TrustDeskModel_isWord_25 rfl (by decide) ⟨_, I0, _, rfl, by decide, by decide, yR, (fun h => absurd h (by decide))⟩
theorem d_TrustDeskModel_name_59 : decode kY_TrustDeskModel_name.2.1 59 = .ok (.ifCond .eq 7, 3) := by decide +kernel
theorem d_TrustDeskModel_name_66 : decode kY_TrustDeskModel_name.2.1 66 = .ok (.aload_n 0, 1) := by decide +kernel
theorem d_TrustDeskModel_name_67 : decode kY_TrustDeskModel_name.2.1 67 = .ok (.ldc_w 258, 3) := by decide +kernel
theorem d_TrustDeskModel_name_70 : decode kY_TrustDeskModel_name.2.1 70 = .ok (.invokevirtual 244, 3) := by decide +kernel
def w_TrustDeskModel_isWord_s1_32_x : List Nat := []
theorem tc_TrustDeskModel_isWord_s1_32_x {g : mj_G} {l : Launch} {d : Nat} {T0 : tm_H} {M0 : mj_M} {n0 x9 : Nat} {o0 : Nat} (h_o0 : T0 o0 = some (0, 13, 0)) (yR : rI M0 o0) (I0 : tm_I tm_FT (tm_in w_TrustDeskModel_isWord_s1_32_x) x9 T0 M0 n0 T0 M0 n0) : mj_Met g l kY_TrustDeskModel_isWord (d + 4) [.ref o0, .ref 32] M0 n0 0 0 (tm_Q tm_FT (tm_in w_TrustDeskModel_isWord_s1_32_x) x9 T0 M0 n0 (fun r _ M => ∃ v : Int32, r = some (.int v) ∧ 0 ≤ v.toInt ∧ v.toInt ≤ 1 ∧ rI M o0 ∧ (v.toInt = 1 → rv M0 o0 17 = 3))) := by
  refine mj_enter (by decide) (Nat.le_of_ble_eq_true rfl) ?_
  refine mv_aload_n d_TrustDeskModel_isWord_0 rfl rfl ?_
  obtain ⟨v2, q1⟩ := tm_atI I0 h_o0 (k := 17) rfl
  refine tr_getK q1 d_TrustDeskModel_isWord_1 f_TrustDeskModel_198_13 ?_
  have := tm_rv q1
  refine mv_iconst (v := 3) d_TrustDeskModel_isWord_4 (by decide) ?_
  have := mz_hi v2
  refine mv_icmp_neZ (tgt := 24) (a := v2.toInt) (b := 3) d_TrustDeskModel_isWord_5 (by decide) rfl (by decide) (fun b3 => ?_) (fun b3 => ?_)
  · refine mv_iconst (v := 0) d_TrustDeskModel_isWord_24 (by decide) ?_
    exact mv_iret d_TrustDeskModel_isWord_25 rfl (by decide) ⟨_, I0, _, rfl, by decide, by decide, yR, (fun h => absurd h (by decide))⟩
  · refine mv_aload_n d_TrustDeskModel_isWord_8 rfl rfl ?_
    obtain ⟨v5, q4⟩ := tm_atI I0 h_o0 (k := 15) rfl
    refine tr_getK q4 d_TrustDeskModel_isWord_9 f_TrustDeskModel_192_13 ?_
    have := yR.f (k := 15) q4 rfl
    have := tm_rv q4
    refine mv_aload_n d_TrustDeskModel_isWord_12 rfl rfl ?_
    obtain ⟨v7, q6⟩ := tm_atI I0 h_o0 (k := 16) rfl
    refine tr_getK q6 d_TrustDeskModel_isWord_13 f_TrustDeskModel_195_13 ?_
    have := yR.f (k := 16) q6 rfl
    have := tm_rv q6
    refine mv_isub d_TrustDeskModel_isWord_16 ?_
    refine mv_aload_n d_TrustDeskModel_isWord_17 rfl rfl ?_
    refine mv_slenK (i := 22) (v := 4) d_TrustDeskModel_isWord_18 lV_TrustDeskModel_214 (by decide) rfl (by decide) (Nat.le_of_ble_eq_true rfl) ?_
    have b8 : (v5 - v7 : Int32).toInt = (v5.toInt - v7.toInt) := mz_sub2 rfl rfl (by have := yR.1 15 _ _ rfl; have := yR.1 16 _ _ rfl; have := yR.1 19 _ _ rfl; omega) (by have := yR.1 15 _ _ rfl; have := yR.1 16 _ _ rfl; have := yR.1 19 _ _ rfl; omega)
    have := mz_hi (v5 - v7)
    refine mv_icmp_eqZ (tgt := 26) (a := (v5 - v7).toInt) (b := 4) d_TrustDeskModel_isWord_21 (by decide) rfl (by decide) (fun b9 => ?_) (fun b9 => ?_)
    · refine mv_iconst (v := 0) d_TrustDeskModel_isWord_26 (by decide) ?_
      refine mv_istore_n (lv' := [(2, .int 0), (0, .ref o0), (1, .ref 32)]) d_TrustDeskModel_isWord_27 rfl (by decide) rfl ?_
      have L28_10 : ∀ (k : Nat) (i2_10 : Int32) (T_10 : tm_H) (M_10 : mj_M) (n_10 : Nat), tm_I tm_FT (tm_in w_TrustDeskModel_isWord_s1_32_x) x9 T0 M0 n0 T_10 M_10 n_10 → T_10 o0 = some (0, 13, 0) → 0 ≤ i2_10.toInt → rv M_10 o0 15 = rv M0 o0 15 → rv M_10 o0 16 = rv M0 o0 16 → i2_10.toInt ≤ 2147483646 → (rI M_10 o0) → 2147483647 - i2_10.toInt < (k : Int) → mj_V g l kY_TrustDeskModel_isWord (d + 4) 28 [(2, .int i2_10), (0, .ref o0), (1, .ref 32)] [] M_10 n_10 0 0 (tm_Q tm_FT (tm_in w_TrustDeskModel_isWord_s1_32_x) x9 T0 M0 n0 (fun r _ M => ∃ v : Int32, r = some (.int v) ∧ 0 ≤ v.toInt ∧ v.toInt ≤ 1 ∧ rI M o0 ∧ (v.toInt = 1 → rv M0 o0 17 = 3))) := by
        intro k10
        induction k10 with
        | zero =>
          intro i2_10 T_10 M_10 n_10 I_10 h_q0_10 iv0_10 iv1_10 iv2_10 iv3_10 kKR_10 hk10
          have := mz_hi i2_10
          have := kKR_10.1 15 _ _ rfl
          have := kKR_10.1 16 _ _ rfl
          have := kKR_10.1 19 _ _ rfl
          omega
        | succ k10 ih10 =>
          intro i2_10 T_10 M_10 n_10 I_10 h_q0_10 iv0_10 iv1_10 iv2_10 iv3_10 kKR_10 hk10
          refine mv_iload_n d_TrustDeskModel_isWord_28 rfl rfl ?_
          refine mv_aload_n d_TrustDeskModel_isWord_29 rfl rfl ?_
          refine mv_slenK (i := 22) (v := 4) d_TrustDeskModel_isWord_30 lV_TrustDeskModel_214 (by decide) rfl (by decide) (Nat.le_of_ble_eq_true rfl) ?_
          have := mz_hi i2_10
          refine mv_icmp_geZ (tgt := 63) (a := i2_10.toInt) (b := 4) d_TrustDeskModel_isWord_33 (by decide) rfl (by decide) (fun b11 => ?_) (fun b11 => ?_)
          · refine mv_iconst (v := 1) d_TrustDeskModel_isWord_63 (by decide) ?_
            exact mv_iret d_TrustDeskModel_isWord_64 rfl (by decide) ⟨_, I_10, _, rfl, by decide, by decide, kKR_10, (fun _ => by omega)⟩
          · refine mv_aload_n d_TrustDeskModel_isWord_36 rfl rfl ?_
            obtain ⟨a13, q12, t_a13⟩ := tm_atR I_10 h_q0_10 (k := 13) rfl
            refine tr_getK q12 d_TrustDeskModel_isWord_37 f_TrustDeskModel_44_13 ?_
            refine mv_aload_n d_TrustDeskModel_isWord_40 rfl rfl ?_
            obtain ⟨v15, q14⟩ := tm_atI I_10 h_q0_10 (k := 16) rfl
            refine tr_getK q14 d_TrustDeskModel_isWord_41 f_TrustDeskModel_195_13 ?_
            have := kKR_10.f (k := 16) q14 rfl
            have := tm_rv q14
            refine mv_iload_n d_TrustDeskModel_isWord_44 rfl rfl ?_
            refine mv_iadd d_TrustDeskModel_isWord_45 ?_
            have b16 : (v15 + i2_10 : Int32).toInt = (v15.toInt + i2_10.toInt) := mz_add2 rfl rfl (by have := kKR_10.1 15 _ _ rfl; have := kKR_10.1 16 _ _ rfl; have := kKR_10.1 19 _ _ rfl; omega) (by have := kKR_10.1 15 _ _ rfl; have := kKR_10.1 16 _ _ rfl; have := kKR_10.1 19 _ _ rfl; omega)
            refine tr_baldR (o := o0) (k := 13) I_10 q12 t_a13 (by decide) d_TrustDeskModel_isWord_46 (vp_in_iff.mpr (by have := kKR_10.1 15 _ _ rfl; have := kKR_10.1 16 _ _ rfl; have := kKR_10.1 19 _ _ rfl; omega)) (fun v17 e18 => ?_)
            have := kKR_10.a (k := 13) rfl ((v15 + i2_10) : Int32).toNatClampNeg
            refine mv_aload_n d_TrustDeskModel_isWord_47 rfl rfl ?_
            refine mv_iload_n d_TrustDeskModel_isWord_48 rfl rfl ?_
            refine mv_schN (i := 22) (N := 4) d_TrustDeskModel_isWord_49 lV_TrustDeskModel_220 (by decide) rfl rfl (by omega) (by omega) (Nat.le_of_ble_eq_true rfl) (fun v19 => ?_)
            have := mz_hi v17
            have := mz_hi v19
            refine mv_icmp_eqZ (tgt := 57) (a := v17.toInt) (b := v19.toInt) d_TrustDeskModel_isWord_52 (by decide) rfl rfl (fun b20 => ?_) (fun b20 => ?_)
            · refine mv_iinc (v := (i2_10 + 1)) (lv' := [(2, .int (i2_10 + 1)), (0, .ref o0), (1, .ref 32)]) d_TrustDeskModel_isWord_57 rfl rfl (by decide) rfl ?_
              refine mv_goto (tgt := 28) d_TrustDeskModel_isWord_60 (by decide) ?_
              have b21 : (i2_10 + 1).toInt = i2_10.toInt + 1 := mz_addn 1 1 (by decide) (by have := mz_lo i2_10; omega) (by have := mz_hi i2_10; omega)
              exact (ih10 (i2_10 + 1) T_10 M_10 n_10 I_10 h_q0_10 (by have := kKR_10.1 15 _ _ rfl; have := kKR_10.1 16 _ _ rfl; have := kKR_10.1 19 _ _ rfl; first | omega | decide) (by have := kKR_10.1 15 _ _ rfl; have := kKR_10.1 16 _ _ rfl; have := kKR_10.1 19 _ _ rfl; first | omega | decide) (by have := kKR_10.1 15 _ _ rfl; have := kKR_10.1 16 _ _ rfl; have := kKR_10.1 19 _ _ rfl; first | omega | decide) (by have := kKR_10.1 15 _ _ rfl; have := kKR_10.1 16 _ _ rfl; have := kKR_10.1 19 _ _ rfl; first | omega | decide) kKR_10 (by have := kKR_10.1 15 _ _ rfl; have := kKR_10.1 16 _ _ rfl; have := kKR_10.1 19 _ _ rfl; omega))
            · refine mv_iconst (v := 0) d_TrustDeskModel_isWord_55 (by decide) ?_
              exact mv_iret d_TrustDeskModel_isWord_56 rfl (by decide) ⟨_, I_10, _, rfl, by decide, by decide, kKR_10, (fun h => absurd h (by decide))⟩
      exact mv_less (Nat.zero_le _) (Nat.zero_le _) (L28_10 4294967296 0 T0 M0 n0 I0 h_o0 (by have := yR.1 15 _ _ rfl; have := yR.1 16 _ _ rfl; have := yR.1 19 _ _ rfl; first | omega | decide) (by have := yR.1 15 _ _ rfl; have := yR.1 16 _ _ rfl; have := yR.1 19 _ _ rfl; first | omega | decide) (by have := yR.1 15 _ _ rfl; have := yR.1 16 _ _ rfl; have := yR.1 19 _ _ rfl; first | omega | decide) (by have := yR.1 15 _ _ rfl; have := yR.1 16 _ _ rfl; have := yR.1 19 _ _ rfl; first | omega | decide) yR (by show (2147483647 - (0 : Int) : Int) < _; decide))
    · refine mv_iconst (v := 0) d_TrustDeskModel_isWord_24 (by decide) ?_
      exact mv_iret d_TrustDeskModel_isWord_25 rfl (by decide) ⟨_, I0, _, rfl, by decide, by decide, yR, (fun h => absurd h (by decide))⟩
theorem d_TrustDeskModel_name_73 : decode kY_TrustDeskModel_name.2.1 73 = .ok (.ifCond .eq 7, 3) := by decide +kernel
theorem d_TrustDeskModel_name_80 : decode kY_TrustDeskModel_name.2.1 80 = .ok (.aload_n 0, 1) := by decide +kernel
theorem d_TrustDeskModel_name_81 : decode kY_TrustDeskModel_name.2.1 81 = .ok (.ldc_w 260, 3) := by decide +kernel
theorem d_TrustDeskModel_name_84 : decode kY_TrustDeskModel_name.2.1 84 = .ok (.invokevirtual 244, 3) := by decide +kernel
def w_TrustDeskModel_isWord_s1_33_x : List Nat := []
theorem tc_TrustDeskModel_isWord_s1_33_x {g : mj_G} {l : Launch} {d : Nat} {T0 : tm_H} {M0 : mj_M} {n0 x9 : Nat} {o0 : Nat} (h_o0 : T0 o0 = some (0, 13, 0)) (yR : rI M0 o0) (I0 : tm_I tm_FT (tm_in w_TrustDeskModel_isWord_s1_33_x) x9 T0 M0 n0 T0 M0 n0) : mj_Met g l kY_TrustDeskModel_isWord (d + 4) [.ref o0, .ref 33] M0 n0 0 0 (tm_Q tm_FT (tm_in w_TrustDeskModel_isWord_s1_33_x) x9 T0 M0 n0 (fun r _ M => ∃ v : Int32, r = some (.int v) ∧ 0 ≤ v.toInt ∧ v.toInt ≤ 1 ∧ rI M o0 ∧ (v.toInt = 1 → rv M0 o0 17 = 3))) := by
  refine mj_enter (by decide) (Nat.le_of_ble_eq_true rfl) ?_
  refine mv_aload_n d_TrustDeskModel_isWord_0 rfl rfl ?_
  obtain ⟨v2, q1⟩ := tm_atI I0 h_o0 (k := 17) rfl
  refine tr_getK q1 d_TrustDeskModel_isWord_1 f_TrustDeskModel_198_13 ?_
  have := tm_rv q1
  refine mv_iconst (v := 3) d_TrustDeskModel_isWord_4 (by decide) ?_
  have := mz_hi v2
  refine mv_icmp_neZ (tgt := 24) (a := v2.toInt) (b := 3) d_TrustDeskModel_isWord_5 (by decide) rfl (by decide) (fun b3 => ?_) (fun b3 => ?_)
  · refine mv_iconst (v := 0) d_TrustDeskModel_isWord_24 (by decide) ?_
    exact mv_iret d_TrustDeskModel_isWord_25 rfl (by decide) ⟨_, I0, _, rfl, by decide, by decide, yR, (fun h => absurd h (by decide))⟩
  · refine mv_aload_n d_TrustDeskModel_isWord_8 rfl rfl ?_
    obtain ⟨v5, q4⟩ := tm_atI I0 h_o0 (k := 15) rfl
    refine tr_getK q4 d_TrustDeskModel_isWord_9 f_TrustDeskModel_192_13 ?_
    have := yR.f (k := 15) q4 rfl
    have := tm_rv q4
    refine mv_aload_n d_TrustDeskModel_isWord_12 rfl rfl ?_
    obtain ⟨v7, q6⟩ := tm_atI I0 h_o0 (k := 16) rfl
    refine tr_getK q6 d_TrustDeskModel_isWord_13 f_TrustDeskModel_195_13 ?_
    have := yR.f (k := 16) q6 rfl
    have := tm_rv q6
    refine mv_isub d_TrustDeskModel_isWord_16 ?_
    refine mv_aload_n d_TrustDeskModel_isWord_17 rfl rfl ?_
    refine mv_slenK (i := 23) (v := 4) d_TrustDeskModel_isWord_18 lV_TrustDeskModel_214 (by decide) rfl (by decide) (Nat.le_of_ble_eq_true rfl) ?_
    have b8 : (v5 - v7 : Int32).toInt = (v5.toInt - v7.toInt) := mz_sub2 rfl rfl (by have := yR.1 15 _ _ rfl; have := yR.1 16 _ _ rfl; have := yR.1 19 _ _ rfl; omega) (by have := yR.1 15 _ _ rfl; have := yR.1 16 _ _ rfl; have := yR.1 19 _ _ rfl; omega)
    have := mz_hi (v5 - v7)
    refine mv_icmp_eqZ (tgt := 26) (a := (v5 - v7).toInt) (b := 4) d_TrustDeskModel_isWord_21 (by decide) rfl (by decide) (fun b9 => ?_) (fun b9 => ?_)
    · refine mv_iconst (v := 0) d_TrustDeskModel_isWord_26 (by decide) ?_
      refine mv_istore_n (lv' := [(2, .int 0), (0, .ref o0), (1, .ref 33)]) d_TrustDeskModel_isWord_27 rfl (by decide) rfl ?_
      have L28_10 : ∀ (k : Nat) (i2_10 : Int32) (T_10 : tm_H) (M_10 : mj_M) (n_10 : Nat), tm_I tm_FT (tm_in w_TrustDeskModel_isWord_s1_33_x) x9 T0 M0 n0 T_10 M_10 n_10 → T_10 o0 = some (0, 13, 0) → 0 ≤ i2_10.toInt → rv M_10 o0 15 = rv M0 o0 15 → rv M_10 o0 16 = rv M0 o0 16 → i2_10.toInt ≤ 2147483646 → (rI M_10 o0) → 2147483647 - i2_10.toInt < (k : Int) → mj_V g l kY_TrustDeskModel_isWord (d + 4) 28 [(2, .int i2_10), (0, .ref o0), (1, .ref 33)] [] M_10 n_10 0 0 (tm_Q tm_FT (tm_in w_TrustDeskModel_isWord_s1_33_x) x9 T0 M0 n0 (fun r _ M => ∃ v : Int32, r = some (.int v) ∧ 0 ≤ v.toInt ∧ v.toInt ≤ 1 ∧ rI M o0 ∧ (v.toInt = 1 → rv M0 o0 17 = 3))) := by
        intro k10
        induction k10 with
        | zero =>
          intro i2_10 T_10 M_10 n_10 I_10 h_q0_10 iv0_10 iv1_10 iv2_10 iv3_10 kKR_10 hk10
          have := mz_hi i2_10
          have := kKR_10.1 15 _ _ rfl
          have := kKR_10.1 16 _ _ rfl
          have := kKR_10.1 19 _ _ rfl
          omega
        | succ k10 ih10 =>
          intro i2_10 T_10 M_10 n_10 I_10 h_q0_10 iv0_10 iv1_10 iv2_10 iv3_10 kKR_10 hk10
          refine mv_iload_n d_TrustDeskModel_isWord_28 rfl rfl ?_
          refine mv_aload_n d_TrustDeskModel_isWord_29 rfl rfl ?_
          refine mv_slenK (i := 23) (v := 4) d_TrustDeskModel_isWord_30 lV_TrustDeskModel_214 (by decide) rfl (by decide) (Nat.le_of_ble_eq_true rfl) ?_
          have := mz_hi i2_10
          refine mv_icmp_geZ (tgt := 63) (a := i2_10.toInt) (b := 4) d_TrustDeskModel_isWord_33 (by decide) rfl (by decide) (fun b11 => ?_) (fun b11 => ?_)
          · refine mv_iconst (v := 1) d_TrustDeskModel_isWord_63 (by decide) ?_
            exact mv_iret d_TrustDeskModel_isWord_64 rfl (by decide) ⟨_, I_10, _, rfl, by decide, by decide, kKR_10, (fun _ => by omega)⟩
          · refine mv_aload_n d_TrustDeskModel_isWord_36 rfl rfl ?_
            obtain ⟨a13, q12, t_a13⟩ := tm_atR I_10 h_q0_10 (k := 13) rfl
            refine tr_getK q12 d_TrustDeskModel_isWord_37 f_TrustDeskModel_44_13 ?_
            refine mv_aload_n d_TrustDeskModel_isWord_40 rfl rfl ?_
            obtain ⟨v15, q14⟩ := tm_atI I_10 h_q0_10 (k := 16) rfl
            refine tr_getK q14 d_TrustDeskModel_isWord_41 f_TrustDeskModel_195_13 ?_
            have := kKR_10.f (k := 16) q14 rfl
            have := tm_rv q14
            refine mv_iload_n d_TrustDeskModel_isWord_44 rfl rfl ?_
            refine mv_iadd d_TrustDeskModel_isWord_45 ?_
            have b16 : (v15 + i2_10 : Int32).toInt = (v15.toInt + i2_10.toInt) := mz_add2 rfl rfl (by have := kKR_10.1 15 _ _ rfl; have := kKR_10.1 16 _ _ rfl; have := kKR_10.1 19 _ _ rfl; omega) (by have := kKR_10.1 15 _ _ rfl; have := kKR_10.1 16 _ _ rfl; have := kKR_10.1 19 _ _ rfl; omega)
            refine tr_baldR (o := o0) (k := 13) I_10 q12 t_a13 (by decide) d_TrustDeskModel_isWord_46 (vp_in_iff.mpr (by have := kKR_10.1 15 _ _ rfl; have := kKR_10.1 16 _ _ rfl; have := kKR_10.1 19 _ _ rfl; omega)) (fun v17 e18 => ?_)
            have := kKR_10.a (k := 13) rfl ((v15 + i2_10) : Int32).toNatClampNeg
            refine mv_aload_n d_TrustDeskModel_isWord_47 rfl rfl ?_
            refine mv_iload_n d_TrustDeskModel_isWord_48 rfl rfl ?_
            refine mv_schN (i := 23) (N := 4) d_TrustDeskModel_isWord_49 lV_TrustDeskModel_220 (by decide) rfl rfl (by omega) (by omega) (Nat.le_of_ble_eq_true rfl) (fun v19 => ?_)
            have := mz_hi v17
            have := mz_hi v19
            refine mv_icmp_eqZ (tgt := 57) (a := v17.toInt) (b := v19.toInt) d_TrustDeskModel_isWord_52 (by decide) rfl rfl (fun b20 => ?_) (fun b20 => ?_)
            · refine mv_iinc (v := (i2_10 + 1)) (lv' := [(2, .int (i2_10 + 1)), (0, .ref o0), (1, .ref 33)]) d_TrustDeskModel_isWord_57 rfl rfl (by decide) rfl ?_
              refine mv_goto (tgt := 28) d_TrustDeskModel_isWord_60 (by decide) ?_
              have b21 : (i2_10 + 1).toInt = i2_10.toInt + 1 := mz_addn 1 1 (by decide) (by have := mz_lo i2_10; omega) (by have := mz_hi i2_10; omega)
              exact (ih10 (i2_10 + 1) T_10 M_10 n_10 I_10 h_q0_10 (by have := kKR_10.1 15 _ _ rfl; have := kKR_10.1 16 _ _ rfl; have := kKR_10.1 19 _ _ rfl; first | omega | decide) (by have := kKR_10.1 15 _ _ rfl; have := kKR_10.1 16 _ _ rfl; have := kKR_10.1 19 _ _ rfl; first | omega | decide) (by have := kKR_10.1 15 _ _ rfl; have := kKR_10.1 16 _ _ rfl; have := kKR_10.1 19 _ _ rfl; first | omega | decide) (by have := kKR_10.1 15 _ _ rfl; have := kKR_10.1 16 _ _ rfl; have := kKR_10.1 19 _ _ rfl; first | omega | decide) kKR_10 (by have := kKR_10.1 15 _ _ rfl; have := kKR_10.1 16 _ _ rfl; have := kKR_10.1 19 _ _ rfl; omega))
            · refine mv_iconst (v := 0) d_TrustDeskModel_isWord_55 (by decide) ?_
              exact mv_iret d_TrustDeskModel_isWord_56 rfl (by decide) ⟨_, I_10, _, rfl, by decide, by decide, kKR_10, (fun h => absurd h (by decide))⟩
      exact mv_less (Nat.zero_le _) (Nat.zero_le _) (L28_10 4294967296 0 T0 M0 n0 I0 h_o0 (by have := yR.1 15 _ _ rfl; have := yR.1 16 _ _ rfl; have := yR.1 19 _ _ rfl; first | omega | decide) (by have := yR.1 15 _ _ rfl; have := yR.1 16 _ _ rfl; have := yR.1 19 _ _ rfl; first | omega | decide) (by have := yR.1 15 _ _ rfl; have := yR.1 16 _ _ rfl; have := yR.1 19 _ _ rfl; first | omega | decide) (by have := yR.1 15 _ _ rfl; have := yR.1 16 _ _ rfl; have := yR.1 19 _ _ rfl; first | omega | decide) yR (by show (2147483647 - (0 : Int) : Int) < _; decide))
    · refine mv_iconst (v := 0) d_TrustDeskModel_isWord_24 (by decide) ?_
      exact mv_iret d_TrustDeskModel_isWord_25 rfl (by decide) ⟨_, I0, _, rfl, by decide, by decide, yR, (fun h => absurd h (by decide))⟩
theorem d_TrustDeskModel_name_87 : decode kY_TrustDeskModel_name.2.1 87 = .ok (.ifCond .eq 8, 3) := by decide +kernel
theorem d_TrustDeskModel_name_95 : decode kY_TrustDeskModel_name.2.1 95 = .ok (.aload_n 0, 1) := by decide +kernel
theorem d_TrustDeskModel_name_96 : decode kY_TrustDeskModel_name.2.1 96 = .ok (.ldc_w 262, 3) := by decide +kernel
theorem d_TrustDeskModel_name_99 : decode kY_TrustDeskModel_name.2.1 99 = .ok (.invokevirtual 244, 3) := by decide +kernel
def w_TrustDeskModel_isWord_s1_34_x : List Nat := []
theorem tc_TrustDeskModel_isWord_s1_34_x {g : mj_G} {l : Launch} {d : Nat} {T0 : tm_H} {M0 : mj_M} {n0 x9 : Nat} {o0 : Nat} (h_o0 : T0 o0 = some (0, 13, 0)) (yR : rI M0 o0) (I0 : tm_I tm_FT (tm_in w_TrustDeskModel_isWord_s1_34_x) x9 T0 M0 n0 T0 M0 n0) : mj_Met g l kY_TrustDeskModel_isWord (d + 4) [.ref o0, .ref 34] M0 n0 0 0 (tm_Q tm_FT (tm_in w_TrustDeskModel_isWord_s1_34_x) x9 T0 M0 n0 (fun r _ M => ∃ v : Int32, r = some (.int v) ∧ 0 ≤ v.toInt ∧ v.toInt ≤ 1 ∧ rI M o0 ∧ (v.toInt = 1 → rv M0 o0 17 = 3))) := by
  refine mj_enter (by decide) (Nat.le_of_ble_eq_true rfl) ?_
  refine mv_aload_n d_TrustDeskModel_isWord_0 rfl rfl ?_
  obtain ⟨v2, q1⟩ := tm_atI I0 h_o0 (k := 17) rfl
  refine tr_getK q1 d_TrustDeskModel_isWord_1 f_TrustDeskModel_198_13 ?_
  have := tm_rv q1
  refine mv_iconst (v := 3) d_TrustDeskModel_isWord_4 (by decide) ?_
  have := mz_hi v2
  refine mv_icmp_neZ (tgt := 24) (a := v2.toInt) (b := 3) d_TrustDeskModel_isWord_5 (by decide) rfl (by decide) (fun b3 => ?_) (fun b3 => ?_)
  · refine mv_iconst (v := 0) d_TrustDeskModel_isWord_24 (by decide) ?_
    exact mv_iret d_TrustDeskModel_isWord_25 rfl (by decide) ⟨_, I0, _, rfl, by decide, by decide, yR, (fun h => absurd h (by decide))⟩
  · refine mv_aload_n d_TrustDeskModel_isWord_8 rfl rfl ?_
    obtain ⟨v5, q4⟩ := tm_atI I0 h_o0 (k := 15) rfl
    refine tr_getK q4 d_TrustDeskModel_isWord_9 f_TrustDeskModel_192_13 ?_
    have := yR.f (k := 15) q4 rfl
    have := tm_rv q4
    refine mv_aload_n d_TrustDeskModel_isWord_12 rfl rfl ?_
    obtain ⟨v7, q6⟩ := tm_atI I0 h_o0 (k := 16) rfl
    refine tr_getK q6 d_TrustDeskModel_isWord_13 f_TrustDeskModel_195_13 ?_
    have := yR.f (k := 16) q6 rfl
    have := tm_rv q6
    refine mv_isub d_TrustDeskModel_isWord_16 ?_
    refine mv_aload_n d_TrustDeskModel_isWord_17 rfl rfl ?_
    refine mv_slenK (i := 24) (v := 4) d_TrustDeskModel_isWord_18 lV_TrustDeskModel_214 (by decide) rfl (by decide) (Nat.le_of_ble_eq_true rfl) ?_
    have b8 : (v5 - v7 : Int32).toInt = (v5.toInt - v7.toInt) := mz_sub2 rfl rfl (by have := yR.1 15 _ _ rfl; have := yR.1 16 _ _ rfl; have := yR.1 19 _ _ rfl; omega) (by have := yR.1 15 _ _ rfl; have := yR.1 16 _ _ rfl; have := yR.1 19 _ _ rfl; omega)
    have := mz_hi (v5 - v7)
    refine mv_icmp_eqZ (tgt := 26) (a := (v5 - v7).toInt) (b := 4) d_TrustDeskModel_isWord_21 (by decide) rfl (by decide) (fun b9 => ?_) (fun b9 => ?_)
    · refine mv_iconst (v := 0) d_TrustDeskModel_isWord_26 (by decide) ?_
      refine mv_istore_n (lv' := [(2, .int 0), (0, .ref o0), (1, .ref 34)]) d_TrustDeskModel_isWord_27 rfl (by decide) rfl ?_
      have L28_10 : ∀ (k : Nat) (i2_10 : Int32) (T_10 : tm_H) (M_10 : mj_M) (n_10 : Nat), tm_I tm_FT (tm_in w_TrustDeskModel_isWord_s1_34_x) x9 T0 M0 n0 T_10 M_10 n_10 → T_10 o0 = some (0, 13, 0) → 0 ≤ i2_10.toInt → rv M_10 o0 15 = rv M0 o0 15 → rv M_10 o0 16 = rv M0 o0 16 → i2_10.toInt ≤ 2147483646 → (rI M_10 o0) → 2147483647 - i2_10.toInt < (k : Int) → mj_V g l kY_TrustDeskModel_isWord (d + 4) 28 [(2, .int i2_10), (0, .ref o0), (1, .ref 34)] [] M_10 n_10 0 0 (tm_Q tm_FT (tm_in w_TrustDeskModel_isWord_s1_34_x) x9 T0 M0 n0 (fun r _ M => ∃ v : Int32, r = some (.int v) ∧ 0 ≤ v.toInt ∧ v.toInt ≤ 1 ∧ rI M o0 ∧ (v.toInt = 1 → rv M0 o0 17 = 3))) := by
        intro k10
        induction k10 with
        | zero =>
          intro i2_10 T_10 M_10 n_10 I_10 h_q0_10 iv0_10 iv1_10 iv2_10 iv3_10 kKR_10 hk10
          have := mz_hi i2_10
          have := kKR_10.1 15 _ _ rfl
          have := kKR_10.1 16 _ _ rfl
          have := kKR_10.1 19 _ _ rfl
          omega
        | succ k10 ih10 =>
          intro i2_10 T_10 M_10 n_10 I_10 h_q0_10 iv0_10 iv1_10 iv2_10 iv3_10 kKR_10 hk10
          refine mv_iload_n d_TrustDeskModel_isWord_28 rfl rfl ?_
          refine mv_aload_n d_TrustDeskModel_isWord_29 rfl rfl ?_
          refine mv_slenK (i := 24) (v := 4) d_TrustDeskModel_isWord_30 lV_TrustDeskModel_214 (by decide) rfl (by decide) (Nat.le_of_ble_eq_true rfl) ?_
          have := mz_hi i2_10
          refine mv_icmp_geZ (tgt := 63) (a := i2_10.toInt) (b := 4) d_TrustDeskModel_isWord_33 (by decide) rfl (by decide) (fun b11 => ?_) (fun b11 => ?_)
          · refine mv_iconst (v := 1) d_TrustDeskModel_isWord_63 (by decide) ?_
            exact mv_iret d_TrustDeskModel_isWord_64 rfl (by decide) ⟨_, I_10, _, rfl, by decide, by decide, kKR_10, (fun _ => by omega)⟩
          · refine mv_aload_n d_TrustDeskModel_isWord_36 rfl rfl ?_
            obtain ⟨a13, q12, t_a13⟩ := tm_atR I_10 h_q0_10 (k := 13) rfl
            refine tr_getK q12 d_TrustDeskModel_isWord_37 f_TrustDeskModel_44_13 ?_
            refine mv_aload_n d_TrustDeskModel_isWord_40 rfl rfl ?_
            obtain ⟨v15, q14⟩ := tm_atI I_10 h_q0_10 (k := 16) rfl
            refine tr_getK q14 d_TrustDeskModel_isWord_41 f_TrustDeskModel_195_13 ?_
            have := kKR_10.f (k := 16) q14 rfl
            have := tm_rv q14
            refine mv_iload_n d_TrustDeskModel_isWord_44 rfl rfl ?_
            refine mv_iadd d_TrustDeskModel_isWord_45 ?_
            have b16 : (v15 + i2_10 : Int32).toInt = (v15.toInt + i2_10.toInt) := mz_add2 rfl rfl (by have := kKR_10.1 15 _ _ rfl; have := kKR_10.1 16 _ _ rfl; have := kKR_10.1 19 _ _ rfl; omega) (by have := kKR_10.1 15 _ _ rfl; have := kKR_10.1 16 _ _ rfl; have := kKR_10.1 19 _ _ rfl; omega)
            refine tr_baldR (o := o0) (k := 13) I_10 q12 t_a13 (by decide) d_TrustDeskModel_isWord_46 (vp_in_iff.mpr (by have := kKR_10.1 15 _ _ rfl; have := kKR_10.1 16 _ _ rfl; have := kKR_10.1 19 _ _ rfl; omega)) (fun v17 e18 => ?_)
            have := kKR_10.a (k := 13) rfl ((v15 + i2_10) : Int32).toNatClampNeg
            refine mv_aload_n d_TrustDeskModel_isWord_47 rfl rfl ?_
            refine mv_iload_n d_TrustDeskModel_isWord_48 rfl rfl ?_
            refine mv_schN (i := 24) (N := 4) d_TrustDeskModel_isWord_49 lV_TrustDeskModel_220 (by decide) rfl rfl (by omega) (by omega) (Nat.le_of_ble_eq_true rfl) (fun v19 => ?_)
            have := mz_hi v17
            have := mz_hi v19
            refine mv_icmp_eqZ (tgt := 57) (a := v17.toInt) (b := v19.toInt) d_TrustDeskModel_isWord_52 (by decide) rfl rfl (fun b20 => ?_) (fun b20 => ?_)
            · refine mv_iinc (v := (i2_10 + 1)) (lv' := [(2, .int (i2_10 + 1)), (0, .ref o0), (1, .ref 34)]) d_TrustDeskModel_isWord_57 rfl rfl (by decide) rfl ?_
              refine mv_goto (tgt := 28) d_TrustDeskModel_isWord_60 (by decide) ?_
              have b21 : (i2_10 + 1).toInt = i2_10.toInt + 1 := mz_addn 1 1 (by decide) (by have := mz_lo i2_10; omega) (by have := mz_hi i2_10; omega)
              exact (ih10 (i2_10 + 1) T_10 M_10 n_10 I_10 h_q0_10 (by have := kKR_10.1 15 _ _ rfl; have := kKR_10.1 16 _ _ rfl; have := kKR_10.1 19 _ _ rfl; first | omega | decide) (by have := kKR_10.1 15 _ _ rfl; have := kKR_10.1 16 _ _ rfl; have := kKR_10.1 19 _ _ rfl; first | omega | decide) (by have := kKR_10.1 15 _ _ rfl; have := kKR_10.1 16 _ _ rfl; have := kKR_10.1 19 _ _ rfl; first | omega | decide) (by have := kKR_10.1 15 _ _ rfl; have := kKR_10.1 16 _ _ rfl; have := kKR_10.1 19 _ _ rfl; first | omega | decide) kKR_10 (by have := kKR_10.1 15 _ _ rfl; have := kKR_10.1 16 _ _ rfl; have := kKR_10.1 19 _ _ rfl; omega))
            · refine mv_iconst (v := 0) d_TrustDeskModel_isWord_55 (by decide) ?_
              exact mv_iret d_TrustDeskModel_isWord_56 rfl (by decide) ⟨_, I_10, _, rfl, by decide, by decide, kKR_10, (fun h => absurd h (by decide))⟩
      exact mv_less (Nat.zero_le _) (Nat.zero_le _) (L28_10 4294967296 0 T0 M0 n0 I0 h_o0 (by have := yR.1 15 _ _ rfl; have := yR.1 16 _ _ rfl; have := yR.1 19 _ _ rfl; first | omega | decide) (by have := yR.1 15 _ _ rfl; have := yR.1 16 _ _ rfl; have := yR.1 19 _ _ rfl; first | omega | decide) (by have := yR.1 15 _ _ rfl; have := yR.1 16 _ _ rfl; have := yR.1 19 _ _ rfl; first | omega | decide) (by have := yR.1 15 _ _ rfl; have := yR.1 16 _ _ rfl; have := yR.1 19 _ _ rfl; first | omega | decide) yR (by show (2147483647 - (0 : Int) : Int) < _; decide))
    · refine mv_iconst (v := 0) d_TrustDeskModel_isWord_24 (by decide) ?_
      exact mv_iret d_TrustDeskModel_isWord_25 rfl (by decide) ⟨_, I0, _, rfl, by decide, by decide, yR, (fun h => absurd h (by decide))⟩
theorem d_TrustDeskModel_name_102 : decode kY_TrustDeskModel_name.2.1 102 = .ok (.ifCond .eq 8, 3) := by decide +kernel
theorem d_TrustDeskModel_name_110 : decode kY_TrustDeskModel_name.2.1 110 = .ok (.aload_n 0, 1) := by decide +kernel
theorem d_TrustDeskModel_name_111 : decode kY_TrustDeskModel_name.2.1 111 = .ok (.ldc_w 264, 3) := by decide +kernel
theorem d_TrustDeskModel_name_114 : decode kY_TrustDeskModel_name.2.1 114 = .ok (.invokevirtual 244, 3) := by decide +kernel
def w_TrustDeskModel_isWord_s1_35_x : List Nat := []
theorem tc_TrustDeskModel_isWord_s1_35_x {g : mj_G} {l : Launch} {d : Nat} {T0 : tm_H} {M0 : mj_M} {n0 x9 : Nat} {o0 : Nat} (h_o0 : T0 o0 = some (0, 13, 0)) (yR : rI M0 o0) (I0 : tm_I tm_FT (tm_in w_TrustDeskModel_isWord_s1_35_x) x9 T0 M0 n0 T0 M0 n0) : mj_Met g l kY_TrustDeskModel_isWord (d + 4) [.ref o0, .ref 35] M0 n0 0 0 (tm_Q tm_FT (tm_in w_TrustDeskModel_isWord_s1_35_x) x9 T0 M0 n0 (fun r _ M => ∃ v : Int32, r = some (.int v) ∧ 0 ≤ v.toInt ∧ v.toInt ≤ 1 ∧ rI M o0 ∧ (v.toInt = 1 → rv M0 o0 17 = 3))) := by
  refine mj_enter (by decide) (Nat.le_of_ble_eq_true rfl) ?_
  refine mv_aload_n d_TrustDeskModel_isWord_0 rfl rfl ?_
  obtain ⟨v2, q1⟩ := tm_atI I0 h_o0 (k := 17) rfl
  refine tr_getK q1 d_TrustDeskModel_isWord_1 f_TrustDeskModel_198_13 ?_
  have := tm_rv q1
  refine mv_iconst (v := 3) d_TrustDeskModel_isWord_4 (by decide) ?_
  have := mz_hi v2
  refine mv_icmp_neZ (tgt := 24) (a := v2.toInt) (b := 3) d_TrustDeskModel_isWord_5 (by decide) rfl (by decide) (fun b3 => ?_) (fun b3 => ?_)
  · refine mv_iconst (v := 0) d_TrustDeskModel_isWord_24 (by decide) ?_
    exact mv_iret d_TrustDeskModel_isWord_25 rfl (by decide) ⟨_, I0, _, rfl, by decide, by decide, yR, (fun h => absurd h (by decide))⟩
  · refine mv_aload_n d_TrustDeskModel_isWord_8 rfl rfl ?_
    obtain ⟨v5, q4⟩ := tm_atI I0 h_o0 (k := 15) rfl
    refine tr_getK q4 d_TrustDeskModel_isWord_9 f_TrustDeskModel_192_13 ?_
    have := yR.f (k := 15) q4 rfl
    have := tm_rv q4
    refine mv_aload_n d_TrustDeskModel_isWord_12 rfl rfl ?_
    obtain ⟨v7, q6⟩ := tm_atI I0 h_o0 (k := 16) rfl
    refine tr_getK q6 d_TrustDeskModel_isWord_13 f_TrustDeskModel_195_13 ?_
    have := yR.f (k := 16) q6 rfl
    have := tm_rv q6
    refine mv_isub d_TrustDeskModel_isWord_16 ?_
    refine mv_aload_n d_TrustDeskModel_isWord_17 rfl rfl ?_
    refine mv_slenK (i := 25) (v := 6) d_TrustDeskModel_isWord_18 lV_TrustDeskModel_214 (by decide) rfl (by decide) (Nat.le_of_ble_eq_true rfl) ?_
    have b8 : (v5 - v7 : Int32).toInt = (v5.toInt - v7.toInt) := mz_sub2 rfl rfl (by have := yR.1 15 _ _ rfl; have := yR.1 16 _ _ rfl; have := yR.1 19 _ _ rfl; omega) (by have := yR.1 15 _ _ rfl; have := yR.1 16 _ _ rfl; have := yR.1 19 _ _ rfl; omega)
    have := mz_hi (v5 - v7)
    refine mv_icmp_eqZ (tgt := 26) (a := (v5 - v7).toInt) (b := 6) d_TrustDeskModel_isWord_21 (by decide) rfl (by decide) (fun b9 => ?_) (fun b9 => ?_)
    · refine mv_iconst (v := 0) d_TrustDeskModel_isWord_26 (by decide) ?_
      refine mv_istore_n (lv' := [(2, .int 0), (0, .ref o0), (1, .ref 35)]) d_TrustDeskModel_isWord_27 rfl (by decide) rfl ?_
      have L28_10 : ∀ (k : Nat) (i2_10 : Int32) (T_10 : tm_H) (M_10 : mj_M) (n_10 : Nat), tm_I tm_FT (tm_in w_TrustDeskModel_isWord_s1_35_x) x9 T0 M0 n0 T_10 M_10 n_10 → T_10 o0 = some (0, 13, 0) → 0 ≤ i2_10.toInt → rv M_10 o0 15 = rv M0 o0 15 → rv M_10 o0 16 = rv M0 o0 16 → i2_10.toInt ≤ 2147483646 → (rI M_10 o0) → 2147483647 - i2_10.toInt < (k : Int) → mj_V g l kY_TrustDeskModel_isWord (d + 4) 28 [(2, .int i2_10), (0, .ref o0), (1, .ref 35)] [] M_10 n_10 0 0 (tm_Q tm_FT (tm_in w_TrustDeskModel_isWord_s1_35_x) x9 T0 M0 n0 (fun r _ M => ∃ v : Int32, r = some (.int v) ∧ 0 ≤ v.toInt ∧ v.toInt ≤ 1 ∧ rI M o0 ∧ (v.toInt = 1 → rv M0 o0 17 = 3))) := by
        intro k10
        induction k10 with
        | zero =>
          intro i2_10 T_10 M_10 n_10 I_10 h_q0_10 iv0_10 iv1_10 iv2_10 iv3_10 kKR_10 hk10
          have := mz_hi i2_10
          have := kKR_10.1 15 _ _ rfl
          have := kKR_10.1 16 _ _ rfl
          have := kKR_10.1 19 _ _ rfl
          omega
        | succ k10 ih10 =>
          intro i2_10 T_10 M_10 n_10 I_10 h_q0_10 iv0_10 iv1_10 iv2_10 iv3_10 kKR_10 hk10
          refine mv_iload_n d_TrustDeskModel_isWord_28 rfl rfl ?_
          refine mv_aload_n d_TrustDeskModel_isWord_29 rfl rfl ?_
          refine mv_slenK (i := 25) (v := 6) d_TrustDeskModel_isWord_30 lV_TrustDeskModel_214 (by decide) rfl (by decide) (Nat.le_of_ble_eq_true rfl) ?_
          have := mz_hi i2_10
          refine mv_icmp_geZ (tgt := 63) (a := i2_10.toInt) (b := 6) d_TrustDeskModel_isWord_33 (by decide) rfl (by decide) (fun b11 => ?_) (fun b11 => ?_)
          · refine mv_iconst (v := 1) d_TrustDeskModel_isWord_63 (by decide) ?_
            exact mv_iret d_TrustDeskModel_isWord_64 rfl (by decide) ⟨_, I_10, _, rfl, by decide, by decide, kKR_10, (fun _ => by omega)⟩
          · refine mv_aload_n d_TrustDeskModel_isWord_36 rfl rfl ?_
            obtain ⟨a13, q12, t_a13⟩ := tm_atR I_10 h_q0_10 (k := 13) rfl
            refine tr_getK q12 d_TrustDeskModel_isWord_37 f_TrustDeskModel_44_13 ?_
            refine mv_aload_n d_TrustDeskModel_isWord_40 rfl rfl ?_
            obtain ⟨v15, q14⟩ := tm_atI I_10 h_q0_10 (k := 16) rfl
            refine tr_getK q14 d_TrustDeskModel_isWord_41 f_TrustDeskModel_195_13 ?_
            have := kKR_10.f (k := 16) q14 rfl
            have := tm_rv q14
            refine mv_iload_n d_TrustDeskModel_isWord_44 rfl rfl ?_
            refine mv_iadd d_TrustDeskModel_isWord_45 ?_
            have b16 : (v15 + i2_10 : Int32).toInt = (v15.toInt + i2_10.toInt) := mz_add2 rfl rfl (by have := kKR_10.1 15 _ _ rfl; have := kKR_10.1 16 _ _ rfl; have := kKR_10.1 19 _ _ rfl; omega) (by have := kKR_10.1 15 _ _ rfl; have := kKR_10.1 16 _ _ rfl; have := kKR_10.1 19 _ _ rfl; omega)
            refine tr_baldR (o := o0) (k := 13) I_10 q12 t_a13 (by decide) d_TrustDeskModel_isWord_46 (vp_in_iff.mpr (by have := kKR_10.1 15 _ _ rfl; have := kKR_10.1 16 _ _ rfl; have := kKR_10.1 19 _ _ rfl; omega)) (fun v17 e18 => ?_)
            have := kKR_10.a (k := 13) rfl ((v15 + i2_10) : Int32).toNatClampNeg
            refine mv_aload_n d_TrustDeskModel_isWord_47 rfl rfl ?_
            refine mv_iload_n d_TrustDeskModel_isWord_48 rfl rfl ?_
            refine mv_schN (i := 25) (N := 6) d_TrustDeskModel_isWord_49 lV_TrustDeskModel_220 (by decide) rfl rfl (by omega) (by omega) (Nat.le_of_ble_eq_true rfl) (fun v19 => ?_)
            have := mz_hi v17
            have := mz_hi v19
            refine mv_icmp_eqZ (tgt := 57) (a := v17.toInt) (b := v19.toInt) d_TrustDeskModel_isWord_52 (by decide) rfl rfl (fun b20 => ?_) (fun b20 => ?_)
            · refine mv_iinc (v := (i2_10 + 1)) (lv' := [(2, .int (i2_10 + 1)), (0, .ref o0), (1, .ref 35)]) d_TrustDeskModel_isWord_57 rfl rfl (by decide) rfl ?_
              refine mv_goto (tgt := 28) d_TrustDeskModel_isWord_60 (by decide) ?_
              have b21 : (i2_10 + 1).toInt = i2_10.toInt + 1 := mz_addn 1 1 (by decide) (by have := mz_lo i2_10; omega) (by have := mz_hi i2_10; omega)
              exact (ih10 (i2_10 + 1) T_10 M_10 n_10 I_10 h_q0_10 (by have := kKR_10.1 15 _ _ rfl; have := kKR_10.1 16 _ _ rfl; have := kKR_10.1 19 _ _ rfl; first | omega | decide) (by have := kKR_10.1 15 _ _ rfl; have := kKR_10.1 16 _ _ rfl; have := kKR_10.1 19 _ _ rfl; first | omega | decide) (by have := kKR_10.1 15 _ _ rfl; have := kKR_10.1 16 _ _ rfl; have := kKR_10.1 19 _ _ rfl; first | omega | decide) (by have := kKR_10.1 15 _ _ rfl; have := kKR_10.1 16 _ _ rfl; have := kKR_10.1 19 _ _ rfl; first | omega | decide) kKR_10 (by have := kKR_10.1 15 _ _ rfl; have := kKR_10.1 16 _ _ rfl; have := kKR_10.1 19 _ _ rfl; omega))
            · refine mv_iconst (v := 0) d_TrustDeskModel_isWord_55 (by decide) ?_
              exact mv_iret d_TrustDeskModel_isWord_56 rfl (by decide) ⟨_, I_10, _, rfl, by decide, by decide, kKR_10, (fun h => absurd h (by decide))⟩
      exact mv_less (Nat.zero_le _) (Nat.zero_le _) (L28_10 4294967296 0 T0 M0 n0 I0 h_o0 (by have := yR.1 15 _ _ rfl; have := yR.1 16 _ _ rfl; have := yR.1 19 _ _ rfl; first | omega | decide) (by have := yR.1 15 _ _ rfl; have := yR.1 16 _ _ rfl; have := yR.1 19 _ _ rfl; first | omega | decide) (by have := yR.1 15 _ _ rfl; have := yR.1 16 _ _ rfl; have := yR.1 19 _ _ rfl; first | omega | decide) (by have := yR.1 15 _ _ rfl; have := yR.1 16 _ _ rfl; have := yR.1 19 _ _ rfl; first | omega | decide) yR (by show (2147483647 - (0 : Int) : Int) < _; decide))
    · refine mv_iconst (v := 0) d_TrustDeskModel_isWord_24 (by decide) ?_
      exact mv_iret d_TrustDeskModel_isWord_25 rfl (by decide) ⟨_, I0, _, rfl, by decide, by decide, yR, (fun h => absurd h (by decide))⟩
theorem d_TrustDeskModel_name_117 : decode kY_TrustDeskModel_name.2.1 117 = .ok (.ifCond .eq 8, 3) := by decide +kernel
theorem d_TrustDeskModel_name_125 : decode kY_TrustDeskModel_name.2.1 125 = .ok (.aload_n 0, 1) := by decide +kernel
theorem d_TrustDeskModel_name_126 : decode kY_TrustDeskModel_name.2.1 126 = .ok (.ldc_w 266, 3) := by decide +kernel
theorem d_TrustDeskModel_name_129 : decode kY_TrustDeskModel_name.2.1 129 = .ok (.invokevirtual 244, 3) := by decide +kernel
def w_TrustDeskModel_isWord_s1_36_x : List Nat := []
theorem tc_TrustDeskModel_isWord_s1_36_x {g : mj_G} {l : Launch} {d : Nat} {T0 : tm_H} {M0 : mj_M} {n0 x9 : Nat} {o0 : Nat} (h_o0 : T0 o0 = some (0, 13, 0)) (yR : rI M0 o0) (I0 : tm_I tm_FT (tm_in w_TrustDeskModel_isWord_s1_36_x) x9 T0 M0 n0 T0 M0 n0) : mj_Met g l kY_TrustDeskModel_isWord (d + 4) [.ref o0, .ref 36] M0 n0 0 0 (tm_Q tm_FT (tm_in w_TrustDeskModel_isWord_s1_36_x) x9 T0 M0 n0 (fun r _ M => ∃ v : Int32, r = some (.int v) ∧ 0 ≤ v.toInt ∧ v.toInt ≤ 1 ∧ rI M o0 ∧ (v.toInt = 1 → rv M0 o0 17 = 3))) := by
  refine mj_enter (by decide) (Nat.le_of_ble_eq_true rfl) ?_
  refine mv_aload_n d_TrustDeskModel_isWord_0 rfl rfl ?_
  obtain ⟨v2, q1⟩ := tm_atI I0 h_o0 (k := 17) rfl
  refine tr_getK q1 d_TrustDeskModel_isWord_1 f_TrustDeskModel_198_13 ?_
  have := tm_rv q1
  refine mv_iconst (v := 3) d_TrustDeskModel_isWord_4 (by decide) ?_
  have := mz_hi v2
  refine mv_icmp_neZ (tgt := 24) (a := v2.toInt) (b := 3) d_TrustDeskModel_isWord_5 (by decide) rfl (by decide) (fun b3 => ?_) (fun b3 => ?_)
  · refine mv_iconst (v := 0) d_TrustDeskModel_isWord_24 (by decide) ?_
    exact mv_iret d_TrustDeskModel_isWord_25 rfl (by decide) ⟨_, I0, _, rfl, by decide, by decide, yR, (fun h => absurd h (by decide))⟩
  · refine mv_aload_n d_TrustDeskModel_isWord_8 rfl rfl ?_
    obtain ⟨v5, q4⟩ := tm_atI I0 h_o0 (k := 15) rfl
    refine tr_getK q4 d_TrustDeskModel_isWord_9 f_TrustDeskModel_192_13 ?_
    have := yR.f (k := 15) q4 rfl
    have := tm_rv q4
    refine mv_aload_n d_TrustDeskModel_isWord_12 rfl rfl ?_
    obtain ⟨v7, q6⟩ := tm_atI I0 h_o0 (k := 16) rfl
    refine tr_getK q6 d_TrustDeskModel_isWord_13 f_TrustDeskModel_195_13 ?_
    have := yR.f (k := 16) q6 rfl
    have := tm_rv q6
    refine mv_isub d_TrustDeskModel_isWord_16 ?_
    refine mv_aload_n d_TrustDeskModel_isWord_17 rfl rfl ?_
    refine mv_slenK (i := 26) (v := 4) d_TrustDeskModel_isWord_18 lV_TrustDeskModel_214 (by decide) rfl (by decide) (Nat.le_of_ble_eq_true rfl) ?_
    have b8 : (v5 - v7 : Int32).toInt = (v5.toInt - v7.toInt) := mz_sub2 rfl rfl (by have := yR.1 15 _ _ rfl; have := yR.1 16 _ _ rfl; have := yR.1 19 _ _ rfl; omega) (by have := yR.1 15 _ _ rfl; have := yR.1 16 _ _ rfl; have := yR.1 19 _ _ rfl; omega)
    have := mz_hi (v5 - v7)
    refine mv_icmp_eqZ (tgt := 26) (a := (v5 - v7).toInt) (b := 4) d_TrustDeskModel_isWord_21 (by decide) rfl (by decide) (fun b9 => ?_) (fun b9 => ?_)
    · refine mv_iconst (v := 0) d_TrustDeskModel_isWord_26 (by decide) ?_
      refine mv_istore_n (lv' := [(2, .int 0), (0, .ref o0), (1, .ref 36)]) d_TrustDeskModel_isWord_27 rfl (by decide) rfl ?_
      have L28_10 : ∀ (k : Nat) (i2_10 : Int32) (T_10 : tm_H) (M_10 : mj_M) (n_10 : Nat), tm_I tm_FT (tm_in w_TrustDeskModel_isWord_s1_36_x) x9 T0 M0 n0 T_10 M_10 n_10 → T_10 o0 = some (0, 13, 0) → 0 ≤ i2_10.toInt → rv M_10 o0 15 = rv M0 o0 15 → rv M_10 o0 16 = rv M0 o0 16 → i2_10.toInt ≤ 2147483646 → (rI M_10 o0) → 2147483647 - i2_10.toInt < (k : Int) → mj_V g l kY_TrustDeskModel_isWord (d + 4) 28 [(2, .int i2_10), (0, .ref o0), (1, .ref 36)] [] M_10 n_10 0 0 (tm_Q tm_FT (tm_in w_TrustDeskModel_isWord_s1_36_x) x9 T0 M0 n0 (fun r _ M => ∃ v : Int32, r = some (.int v) ∧ 0 ≤ v.toInt ∧ v.toInt ≤ 1 ∧ rI M o0 ∧ (v.toInt = 1 → rv M0 o0 17 = 3))) := by
        intro k10
        induction k10 with
        | zero =>
          intro i2_10 T_10 M_10 n_10 I_10 h_q0_10 iv0_10 iv1_10 iv2_10 iv3_10 kKR_10 hk10
          have := mz_hi i2_10
          have := kKR_10.1 15 _ _ rfl
          have := kKR_10.1 16 _ _ rfl
          have := kKR_10.1 19 _ _ rfl
          omega
        | succ k10 ih10 =>
          intro i2_10 T_10 M_10 n_10 I_10 h_q0_10 iv0_10 iv1_10 iv2_10 iv3_10 kKR_10 hk10
          refine mv_iload_n d_TrustDeskModel_isWord_28 rfl rfl ?_
          refine mv_aload_n d_TrustDeskModel_isWord_29 rfl rfl ?_
          refine mv_slenK (i := 26) (v := 4) d_TrustDeskModel_isWord_30 lV_TrustDeskModel_214 (by decide) rfl (by decide) (Nat.le_of_ble_eq_true rfl) ?_
          have := mz_hi i2_10
          refine mv_icmp_geZ (tgt := 63) (a := i2_10.toInt) (b := 4) d_TrustDeskModel_isWord_33 (by decide) rfl (by decide) (fun b11 => ?_) (fun b11 => ?_)
          · refine mv_iconst (v := 1) d_TrustDeskModel_isWord_63 (by decide) ?_
            exact mv_iret d_TrustDeskModel_isWord_64 rfl (by decide) ⟨_, I_10, _, rfl, by decide, by decide, kKR_10, (fun _ => by omega)⟩
          · refine mv_aload_n d_TrustDeskModel_isWord_36 rfl rfl ?_
            obtain ⟨a13, q12, t_a13⟩ := tm_atR I_10 h_q0_10 (k := 13) rfl
            refine tr_getK q12 d_TrustDeskModel_isWord_37 f_TrustDeskModel_44_13 ?_
            refine mv_aload_n d_TrustDeskModel_isWord_40 rfl rfl ?_
            obtain ⟨v15, q14⟩ := tm_atI I_10 h_q0_10 (k := 16) rfl
            refine tr_getK q14 d_TrustDeskModel_isWord_41 f_TrustDeskModel_195_13 ?_
            have := kKR_10.f (k := 16) q14 rfl
            have := tm_rv q14
            refine mv_iload_n d_TrustDeskModel_isWord_44 rfl rfl ?_
            refine mv_iadd d_TrustDeskModel_isWord_45 ?_
            have b16 : (v15 + i2_10 : Int32).toInt = (v15.toInt + i2_10.toInt) := mz_add2 rfl rfl (by have := kKR_10.1 15 _ _ rfl; have := kKR_10.1 16 _ _ rfl; have := kKR_10.1 19 _ _ rfl; omega) (by have := kKR_10.1 15 _ _ rfl; have := kKR_10.1 16 _ _ rfl; have := kKR_10.1 19 _ _ rfl; omega)
            refine tr_baldR (o := o0) (k := 13) I_10 q12 t_a13 (by decide) d_TrustDeskModel_isWord_46 (vp_in_iff.mpr (by have := kKR_10.1 15 _ _ rfl; have := kKR_10.1 16 _ _ rfl; have := kKR_10.1 19 _ _ rfl; omega)) (fun v17 e18 => ?_)
            have := kKR_10.a (k := 13) rfl ((v15 + i2_10) : Int32).toNatClampNeg
            refine mv_aload_n d_TrustDeskModel_isWord_47 rfl rfl ?_
            refine mv_iload_n d_TrustDeskModel_isWord_48 rfl rfl ?_
            refine mv_schN (i := 26) (N := 4) d_TrustDeskModel_isWord_49 lV_TrustDeskModel_220 (by decide) rfl rfl (by omega) (by omega) (Nat.le_of_ble_eq_true rfl) (fun v19 => ?_)
            have := mz_hi v17
            have := mz_hi v19
            refine mv_icmp_eqZ (tgt := 57) (a := v17.toInt) (b := v19.toInt) d_TrustDeskModel_isWord_52 (by decide) rfl rfl (fun b20 => ?_) (fun b20 => ?_)
            · refine mv_iinc (v := (i2_10 + 1)) (lv' := [(2, .int (i2_10 + 1)), (0, .ref o0), (1, .ref 36)]) d_TrustDeskModel_isWord_57 rfl rfl (by decide) rfl ?_
              refine mv_goto (tgt := 28) d_TrustDeskModel_isWord_60 (by decide) ?_
              have b21 : (i2_10 + 1).toInt = i2_10.toInt + 1 := mz_addn 1 1 (by decide) (by have := mz_lo i2_10; omega) (by have := mz_hi i2_10; omega)
              exact (ih10 (i2_10 + 1) T_10 M_10 n_10 I_10 h_q0_10 (by have := kKR_10.1 15 _ _ rfl; have := kKR_10.1 16 _ _ rfl; have := kKR_10.1 19 _ _ rfl; first | omega | decide) (by have := kKR_10.1 15 _ _ rfl; have := kKR_10.1 16 _ _ rfl; have := kKR_10.1 19 _ _ rfl; first | omega | decide) (by have := kKR_10.1 15 _ _ rfl; have := kKR_10.1 16 _ _ rfl; have := kKR_10.1 19 _ _ rfl; first | omega | decide) (by have := kKR_10.1 15 _ _ rfl; have := kKR_10.1 16 _ _ rfl; have := kKR_10.1 19 _ _ rfl; first | omega | decide) kKR_10 (by have := kKR_10.1 15 _ _ rfl; have := kKR_10.1 16 _ _ rfl; have := kKR_10.1 19 _ _ rfl; omega))
            · refine mv_iconst (v := 0) d_TrustDeskModel_isWord_55 (by decide) ?_
              exact mv_iret d_TrustDeskModel_isWord_56 rfl (by decide) ⟨_, I_10, _, rfl, by decide, by decide, kKR_10, (fun h => absurd h (by decide))⟩
      exact mv_less (Nat.zero_le _) (Nat.zero_le _) (L28_10 4294967296 0 T0 M0 n0 I0 h_o0 (by have := yR.1 15 _ _ rfl; have := yR.1 16 _ _ rfl; have := yR.1 19 _ _ rfl; first | omega | decide) (by have := yR.1 15 _ _ rfl; have := yR.1 16 _ _ rfl; have := yR.1 19 _ _ rfl; first | omega | decide) (by have := yR.1 15 _ _ rfl; have := yR.1 16 _ _ rfl; have := yR.1 19 _ _ rfl; first | omega | decide) (by have := yR.1 15 _ _ rfl; have := yR.1 16 _ _ rfl; have := yR.1 19 _ _ rfl; first | omega | decide) yR (by show (2147483647 - (0 : Int) : Int) < _; decide))
    · refine mv_iconst (v := 0) d_TrustDeskModel_isWord_24 (by decide) ?_
      exact mv_iret d_TrustDeskModel_isWord_25 rfl (by decide) ⟨_, I0, _, rfl, by decide, by decide, yR, (fun h => absurd h (by decide))⟩
theorem d_TrustDeskModel_name_132 : decode kY_TrustDeskModel_name.2.1 132 = .ok (.ifCond .eq 8, 3) := by decide +kernel
theorem d_TrustDeskModel_name_140 : decode kY_TrustDeskModel_name.2.1 140 = .ok (.iconst (-1), 1) := by decide +kernel
theorem d_TrustDeskModel_name_141 : decode kY_TrustDeskModel_name.2.1 141 = .ok (.istore_n 1, 1) := by decide +kernel
theorem d_TrustDeskModel_name_142 : decode kY_TrustDeskModel_name.2.1 142 = .ok (.iload_n 1, 1) := by decide +kernel
theorem d_TrustDeskModel_name_143 : decode kY_TrustDeskModel_name.2.1 143 = .ok (.iconst (-1), 1) := by decide +kernel
theorem d_TrustDeskModel_name_144 : decode kY_TrustDeskModel_name.2.1 144 = .ok (.if_icmp .ne 10, 3) := by decide +kernel
theorem d_TrustDeskModel_name_147 : decode kY_TrustDeskModel_name.2.1 147 = .ok (.aload_n 0, 1) := by decide +kernel
theorem d_TrustDeskModel_name_148 : decode kY_TrustDeskModel_name.2.1 148 = .ok (.getfield 267, 3) := by decide +kernel
theorem f_TrustDeskModel_267_13 : mj_fl "TrustDeskModel" 267 13 23 := ⟨kR_TrustDeskModel, kF_TrustDeskModel, 72, "TrustDeskModel", rfl, kg_13, by decide, (mj_in1 (List.mem_of_getElem? (i := 1409) (by decide +kernel)) rfl), Or.inl rfl⟩
theorem d_TrustDeskModel_name_151 : decode kY_TrustDeskModel_name.2.1 151 = .ok (.ifCond .ne 5, 3) := by decide +kernel
theorem d_TrustDeskModel_name_156 : decode kY_TrustDeskModel_name.2.1 156 = .ok (.aload_n 0, 1) := by decide +kernel
theorem d_TrustDeskModel_name_157 : decode kY_TrustDeskModel_name.2.1 157 = .ok (.ldc_w 271, 3) := by decide +kernel
theorem d_TrustDeskModel_name_160 : decode kY_TrustDeskModel_name.2.1 160 = .ok (.invokevirtual 244, 3) := by decide +kernel
def w_TrustDeskModel_isWord_s1_37_x : List Nat := []
theorem tc_TrustDeskModel_isWord_s1_37_x {g : mj_G} {l : Launch} {d : Nat} {T0 : tm_H} {M0 : mj_M} {n0 x9 : Nat} {o0 : Nat} (h_o0 : T0 o0 = some (0, 13, 0)) (yR : rI M0 o0) (I0 : tm_I tm_FT (tm_in w_TrustDeskModel_isWord_s1_37_x) x9 T0 M0 n0 T0 M0 n0) : mj_Met g l kY_TrustDeskModel_isWord (d + 4) [.ref o0, .ref 37] M0 n0 0 0 (tm_Q tm_FT (tm_in w_TrustDeskModel_isWord_s1_37_x) x9 T0 M0 n0 (fun r _ M => ∃ v : Int32, r = some (.int v) ∧ 0 ≤ v.toInt ∧ v.toInt ≤ 1 ∧ rI M o0 ∧ (v.toInt = 1 → rv M0 o0 17 = 3))) := by
  refine mj_enter (by decide) (Nat.le_of_ble_eq_true rfl) ?_
  refine mv_aload_n d_TrustDeskModel_isWord_0 rfl rfl ?_
  obtain ⟨v2, q1⟩ := tm_atI I0 h_o0 (k := 17) rfl
  refine tr_getK q1 d_TrustDeskModel_isWord_1 f_TrustDeskModel_198_13 ?_
  have := tm_rv q1
  refine mv_iconst (v := 3) d_TrustDeskModel_isWord_4 (by decide) ?_
  have := mz_hi v2
  refine mv_icmp_neZ (tgt := 24) (a := v2.toInt) (b := 3) d_TrustDeskModel_isWord_5 (by decide) rfl (by decide) (fun b3 => ?_) (fun b3 => ?_)
  · refine mv_iconst (v := 0) d_TrustDeskModel_isWord_24 (by decide) ?_
    exact mv_iret d_TrustDeskModel_isWord_25 rfl (by decide) ⟨_, I0, _, rfl, by decide, by decide, yR, (fun h => absurd h (by decide))⟩
  · refine mv_aload_n d_TrustDeskModel_isWord_8 rfl rfl ?_
    obtain ⟨v5, q4⟩ := tm_atI I0 h_o0 (k := 15) rfl
    refine tr_getK q4 d_TrustDeskModel_isWord_9 f_TrustDeskModel_192_13 ?_
    have := yR.f (k := 15) q4 rfl
    have := tm_rv q4
    refine mv_aload_n d_TrustDeskModel_isWord_12 rfl rfl ?_
    obtain ⟨v7, q6⟩ := tm_atI I0 h_o0 (k := 16) rfl
    refine tr_getK q6 d_TrustDeskModel_isWord_13 f_TrustDeskModel_195_13 ?_
    have := yR.f (k := 16) q6 rfl
    have := tm_rv q6
    refine mv_isub d_TrustDeskModel_isWord_16 ?_
    refine mv_aload_n d_TrustDeskModel_isWord_17 rfl rfl ?_
    refine mv_slenK (i := 27) (v := 6) d_TrustDeskModel_isWord_18 lV_TrustDeskModel_214 (by decide) rfl (by decide) (Nat.le_of_ble_eq_true rfl) ?_
    have b8 : (v5 - v7 : Int32).toInt = (v5.toInt - v7.toInt) := mz_sub2 rfl rfl (by have := yR.1 15 _ _ rfl; have := yR.1 16 _ _ rfl; have := yR.1 19 _ _ rfl; omega) (by have := yR.1 15 _ _ rfl; have := yR.1 16 _ _ rfl; have := yR.1 19 _ _ rfl; omega)
    have := mz_hi (v5 - v7)
    refine mv_icmp_eqZ (tgt := 26) (a := (v5 - v7).toInt) (b := 6) d_TrustDeskModel_isWord_21 (by decide) rfl (by decide) (fun b9 => ?_) (fun b9 => ?_)
    · refine mv_iconst (v := 0) d_TrustDeskModel_isWord_26 (by decide) ?_
      refine mv_istore_n (lv' := [(2, .int 0), (0, .ref o0), (1, .ref 37)]) d_TrustDeskModel_isWord_27 rfl (by decide) rfl ?_
      have L28_10 : ∀ (k : Nat) (i2_10 : Int32) (T_10 : tm_H) (M_10 : mj_M) (n_10 : Nat), tm_I tm_FT (tm_in w_TrustDeskModel_isWord_s1_37_x) x9 T0 M0 n0 T_10 M_10 n_10 → T_10 o0 = some (0, 13, 0) → 0 ≤ i2_10.toInt → rv M_10 o0 15 = rv M0 o0 15 → rv M_10 o0 16 = rv M0 o0 16 → i2_10.toInt ≤ 2147483646 → (rI M_10 o0) → 2147483647 - i2_10.toInt < (k : Int) → mj_V g l kY_TrustDeskModel_isWord (d + 4) 28 [(2, .int i2_10), (0, .ref o0), (1, .ref 37)] [] M_10 n_10 0 0 (tm_Q tm_FT (tm_in w_TrustDeskModel_isWord_s1_37_x) x9 T0 M0 n0 (fun r _ M => ∃ v : Int32, r = some (.int v) ∧ 0 ≤ v.toInt ∧ v.toInt ≤ 1 ∧ rI M o0 ∧ (v.toInt = 1 → rv M0 o0 17 = 3))) := by
        intro k10
        induction k10 with
        | zero =>
          intro i2_10 T_10 M_10 n_10 I_10 h_q0_10 iv0_10 iv1_10 iv2_10 iv3_10 kKR_10 hk10
          have := mz_hi i2_10
          have := kKR_10.1 15 _ _ rfl
          have := kKR_10.1 16 _ _ rfl
          have := kKR_10.1 19 _ _ rfl
          omega
        | succ k10 ih10 =>
          intro i2_10 T_10 M_10 n_10 I_10 h_q0_10 iv0_10 iv1_10 iv2_10 iv3_10 kKR_10 hk10
          refine mv_iload_n d_TrustDeskModel_isWord_28 rfl rfl ?_
          refine mv_aload_n d_TrustDeskModel_isWord_29 rfl rfl ?_
          refine mv_slenK (i := 27) (v := 6) d_TrustDeskModel_isWord_30 lV_TrustDeskModel_214 (by decide) rfl (by decide) (Nat.le_of_ble_eq_true rfl) ?_
          have := mz_hi i2_10
          refine mv_icmp_geZ (tgt := 63) (a := i2_10.toInt) (b := 6) d_TrustDeskModel_isWord_33 (by decide) rfl (by decide) (fun b11 => ?_) (fun b11 => ?_)
          · refine mv_iconst (v := 1) d_TrustDeskModel_isWord_63 (by decide) ?_
            exact mv_iret d_TrustDeskModel_isWord_64 rfl (by decide) ⟨_, I_10, _, rfl, by decide, by decide, kKR_10, (fun _ => by omega)⟩
          · refine mv_aload_n d_TrustDeskModel_isWord_36 rfl rfl ?_
            obtain ⟨a13, q12, t_a13⟩ := tm_atR I_10 h_q0_10 (k := 13) rfl
            refine tr_getK q12 d_TrustDeskModel_isWord_37 f_TrustDeskModel_44_13 ?_
            refine mv_aload_n d_TrustDeskModel_isWord_40 rfl rfl ?_
            obtain ⟨v15, q14⟩ := tm_atI I_10 h_q0_10 (k := 16) rfl
            refine tr_getK q14 d_TrustDeskModel_isWord_41 f_TrustDeskModel_195_13 ?_
            have := kKR_10.f (k := 16) q14 rfl
            have := tm_rv q14
            refine mv_iload_n d_TrustDeskModel_isWord_44 rfl rfl ?_
            refine mv_iadd d_TrustDeskModel_isWord_45 ?_
            have b16 : (v15 + i2_10 : Int32).toInt = (v15.toInt + i2_10.toInt) := mz_add2 rfl rfl (by have := kKR_10.1 15 _ _ rfl; have := kKR_10.1 16 _ _ rfl; have := kKR_10.1 19 _ _ rfl; omega) (by have := kKR_10.1 15 _ _ rfl; have := kKR_10.1 16 _ _ rfl; have := kKR_10.1 19 _ _ rfl; omega)
            refine tr_baldR (o := o0) (k := 13) I_10 q12 t_a13 (by decide) d_TrustDeskModel_isWord_46 (vp_in_iff.mpr (by have := kKR_10.1 15 _ _ rfl; have := kKR_10.1 16 _ _ rfl; have := kKR_10.1 19 _ _ rfl; omega)) (fun v17 e18 => ?_)
            have := kKR_10.a (k := 13) rfl ((v15 + i2_10) : Int32).toNatClampNeg
            refine mv_aload_n d_TrustDeskModel_isWord_47 rfl rfl ?_
            refine mv_iload_n d_TrustDeskModel_isWord_48 rfl rfl ?_
            refine mv_schN (i := 27) (N := 6) d_TrustDeskModel_isWord_49 lV_TrustDeskModel_220 (by decide) rfl rfl (by omega) (by omega) (Nat.le_of_ble_eq_true rfl) (fun v19 => ?_)
            have := mz_hi v17
            have := mz_hi v19
            refine mv_icmp_eqZ (tgt := 57) (a := v17.toInt) (b := v19.toInt) d_TrustDeskModel_isWord_52 (by decide) rfl rfl (fun b20 => ?_) (fun b20 => ?_)
            · refine mv_iinc (v := (i2_10 + 1)) (lv' := [(2, .int (i2_10 + 1)), (0, .ref o0), (1, .ref 37)]) d_TrustDeskModel_isWord_57 rfl rfl (by decide) rfl ?_
              refine mv_goto (tgt := 28) d_TrustDeskModel_isWord_60 (by decide) ?_
              have b21 : (i2_10 + 1).toInt = i2_10.toInt + 1 := mz_addn 1 1 (by decide) (by have := mz_lo i2_10; omega) (by have := mz_hi i2_10; omega)
              exact (ih10 (i2_10 + 1) T_10 M_10 n_10 I_10 h_q0_10 (by have := kKR_10.1 15 _ _ rfl; have := kKR_10.1 16 _ _ rfl; have := kKR_10.1 19 _ _ rfl; first | omega | decide) (by have := kKR_10.1 15 _ _ rfl; have := kKR_10.1 16 _ _ rfl; have := kKR_10.1 19 _ _ rfl; first | omega | decide) (by have := kKR_10.1 15 _ _ rfl; have := kKR_10.1 16 _ _ rfl; have := kKR_10.1 19 _ _ rfl; first | omega | decide) (by have := kKR_10.1 15 _ _ rfl; have := kKR_10.1 16 _ _ rfl; have := kKR_10.1 19 _ _ rfl; first | omega | decide) kKR_10 (by have := kKR_10.1 15 _ _ rfl; have := kKR_10.1 16 _ _ rfl; have := kKR_10.1 19 _ _ rfl; omega))
            · refine mv_iconst (v := 0) d_TrustDeskModel_isWord_55 (by decide) ?_
              exact mv_iret d_TrustDeskModel_isWord_56 rfl (by decide) ⟨_, I_10, _, rfl, by decide, by decide, kKR_10, (fun h => absurd h (by decide))⟩
      exact mv_less (Nat.zero_le _) (Nat.zero_le _) (L28_10 4294967296 0 T0 M0 n0 I0 h_o0 (by have := yR.1 15 _ _ rfl; have := yR.1 16 _ _ rfl; have := yR.1 19 _ _ rfl; first | omega | decide) (by have := yR.1 15 _ _ rfl; have := yR.1 16 _ _ rfl; have := yR.1 19 _ _ rfl; first | omega | decide) (by have := yR.1 15 _ _ rfl; have := yR.1 16 _ _ rfl; have := yR.1 19 _ _ rfl; first | omega | decide) (by have := yR.1 15 _ _ rfl; have := yR.1 16 _ _ rfl; have := yR.1 19 _ _ rfl; first | omega | decide) yR (by show (2147483647 - (0 : Int) : Int) < _; decide))
    · refine mv_iconst (v := 0) d_TrustDeskModel_isWord_24 (by decide) ?_
      exact mv_iret d_TrustDeskModel_isWord_25 rfl (by decide) ⟨_, I0, _, rfl, by decide, by decide, yR, (fun h => absurd h (by decide))⟩
theorem d_TrustDeskModel_name_163 : decode kY_TrustDeskModel_name.2.1 163 = .ok (.ifCond .eq 8, 3) := by decide +kernel
theorem d_TrustDeskModel_name_171 : decode kY_TrustDeskModel_name.2.1 171 = .ok (.aload_n 0, 1) := by decide +kernel
theorem d_TrustDeskModel_name_172 : decode kY_TrustDeskModel_name.2.1 172 = .ok (.ldc_w 273, 3) := by decide +kernel
theorem d_TrustDeskModel_name_175 : decode kY_TrustDeskModel_name.2.1 175 = .ok (.invokevirtual 244, 3) := by decide +kernel
def w_TrustDeskModel_isWord_s1_38_x : List Nat := []
theorem tc_TrustDeskModel_isWord_s1_38_x {g : mj_G} {l : Launch} {d : Nat} {T0 : tm_H} {M0 : mj_M} {n0 x9 : Nat} {o0 : Nat} (h_o0 : T0 o0 = some (0, 13, 0)) (yR : rI M0 o0) (I0 : tm_I tm_FT (tm_in w_TrustDeskModel_isWord_s1_38_x) x9 T0 M0 n0 T0 M0 n0) : mj_Met g l kY_TrustDeskModel_isWord (d + 4) [.ref o0, .ref 38] M0 n0 0 0 (tm_Q tm_FT (tm_in w_TrustDeskModel_isWord_s1_38_x) x9 T0 M0 n0 (fun r _ M => ∃ v : Int32, r = some (.int v) ∧ 0 ≤ v.toInt ∧ v.toInt ≤ 1 ∧ rI M o0 ∧ (v.toInt = 1 → rv M0 o0 17 = 3))) := by
  refine mj_enter (by decide) (Nat.le_of_ble_eq_true rfl) ?_
  refine mv_aload_n d_TrustDeskModel_isWord_0 rfl rfl ?_
  obtain ⟨v2, q1⟩ := tm_atI I0 h_o0 (k := 17) rfl
  refine tr_getK q1 d_TrustDeskModel_isWord_1 f_TrustDeskModel_198_13 ?_
  have := tm_rv q1
  refine mv_iconst (v := 3) d_TrustDeskModel_isWord_4 (by decide) ?_
  have := mz_hi v2
  refine mv_icmp_neZ (tgt := 24) (a := v2.toInt) (b := 3) d_TrustDeskModel_isWord_5 (by decide) rfl (by decide) (fun b3 => ?_) (fun b3 => ?_)
  · refine mv_iconst (v := 0) d_TrustDeskModel_isWord_24 (by decide) ?_
    exact mv_iret d_TrustDeskModel_isWord_25 rfl (by decide) ⟨_, I0, _, rfl, by decide, by decide, yR, (fun h => absurd h (by decide))⟩
  · refine mv_aload_n d_TrustDeskModel_isWord_8 rfl rfl ?_
    obtain ⟨v5, q4⟩ := tm_atI I0 h_o0 (k := 15) rfl
    refine tr_getK q4 d_TrustDeskModel_isWord_9 f_TrustDeskModel_192_13 ?_
    have := yR.f (k := 15) q4 rfl
    have := tm_rv q4
    refine mv_aload_n d_TrustDeskModel_isWord_12 rfl rfl ?_
    obtain ⟨v7, q6⟩ := tm_atI I0 h_o0 (k := 16) rfl
    refine tr_getK q6 d_TrustDeskModel_isWord_13 f_TrustDeskModel_195_13 ?_
    have := yR.f (k := 16) q6 rfl
    have := tm_rv q6
    refine mv_isub d_TrustDeskModel_isWord_16 ?_
    refine mv_aload_n d_TrustDeskModel_isWord_17 rfl rfl ?_
    refine mv_slenK (i := 28) (v := 4) d_TrustDeskModel_isWord_18 lV_TrustDeskModel_214 (by decide) rfl (by decide) (Nat.le_of_ble_eq_true rfl) ?_
    have b8 : (v5 - v7 : Int32).toInt = (v5.toInt - v7.toInt) := mz_sub2 rfl rfl (by have := yR.1 15 _ _ rfl; have := yR.1 16 _ _ rfl; have := yR.1 19 _ _ rfl; omega) (by have := yR.1 15 _ _ rfl; have := yR.1 16 _ _ rfl; have := yR.1 19 _ _ rfl; omega)
    have := mz_hi (v5 - v7)
    refine mv_icmp_eqZ (tgt := 26) (a := (v5 - v7).toInt) (b := 4) d_TrustDeskModel_isWord_21 (by decide) rfl (by decide) (fun b9 => ?_) (fun b9 => ?_)
    · refine mv_iconst (v := 0) d_TrustDeskModel_isWord_26 (by decide) ?_
      refine mv_istore_n (lv' := [(2, .int 0), (0, .ref o0), (1, .ref 38)]) d_TrustDeskModel_isWord_27 rfl (by decide) rfl ?_
      have L28_10 : ∀ (k : Nat) (i2_10 : Int32) (T_10 : tm_H) (M_10 : mj_M) (n_10 : Nat), tm_I tm_FT (tm_in w_TrustDeskModel_isWord_s1_38_x) x9 T0 M0 n0 T_10 M_10 n_10 → T_10 o0 = some (0, 13, 0) → 0 ≤ i2_10.toInt → rv M_10 o0 15 = rv M0 o0 15 → rv M_10 o0 16 = rv M0 o0 16 → i2_10.toInt ≤ 2147483646 → (rI M_10 o0) → 2147483647 - i2_10.toInt < (k : Int) → mj_V g l kY_TrustDeskModel_isWord (d + 4) 28 [(2, .int i2_10), (0, .ref o0), (1, .ref 38)] [] M_10 n_10 0 0 (tm_Q tm_FT (tm_in w_TrustDeskModel_isWord_s1_38_x) x9 T0 M0 n0 (fun r _ M => ∃ v : Int32, r = some (.int v) ∧ 0 ≤ v.toInt ∧ v.toInt ≤ 1 ∧ rI M o0 ∧ (v.toInt = 1 → rv M0 o0 17 = 3))) := by
        intro k10
        induction k10 with
        | zero =>
          intro i2_10 T_10 M_10 n_10 I_10 h_q0_10 iv0_10 iv1_10 iv2_10 iv3_10 kKR_10 hk10
          have := mz_hi i2_10
          have := kKR_10.1 15 _ _ rfl
          have := kKR_10.1 16 _ _ rfl
          have := kKR_10.1 19 _ _ rfl
          omega
        | succ k10 ih10 =>
          intro i2_10 T_10 M_10 n_10 I_10 h_q0_10 iv0_10 iv1_10 iv2_10 iv3_10 kKR_10 hk10
          refine mv_iload_n d_TrustDeskModel_isWord_28 rfl rfl ?_
          refine mv_aload_n d_TrustDeskModel_isWord_29 rfl rfl ?_
          refine mv_slenK (i := 28) (v := 4) d_TrustDeskModel_isWord_30 lV_TrustDeskModel_214 (by decide) rfl (by decide) (Nat.le_of_ble_eq_true rfl) ?_
          have := mz_hi i2_10
          refine mv_icmp_geZ (tgt := 63) (a := i2_10.toInt) (b := 4) d_TrustDeskModel_isWord_33 (by decide) rfl (by decide) (fun b11 => ?_) (fun b11 => ?_)
          · refine mv_iconst (v := 1) d_TrustDeskModel_isWord_63 (by decide) ?_
            exact mv_iret d_TrustDeskModel_isWord_64 rfl (by decide) ⟨_, I_10, _, rfl, by decide, by decide, kKR_10, (fun _ => by omega)⟩
          · refine mv_aload_n d_TrustDeskModel_isWord_36 rfl rfl ?_
            obtain ⟨a13, q12, t_a13⟩ := tm_atR I_10 h_q0_10 (k := 13) rfl
            refine tr_getK q12 d_TrustDeskModel_isWord_37 f_TrustDeskModel_44_13 ?_
            refine mv_aload_n d_TrustDeskModel_isWord_40 rfl rfl ?_
            obtain ⟨v15, q14⟩ := tm_atI I_10 h_q0_10 (k := 16) rfl
            refine tr_getK q14 d_TrustDeskModel_isWord_41 f_TrustDeskModel_195_13 ?_
            have := kKR_10.f (k := 16) q14 rfl
            have := tm_rv q14
            refine mv_iload_n d_TrustDeskModel_isWord_44 rfl rfl ?_
            refine mv_iadd d_TrustDeskModel_isWord_45 ?_
            have b16 : (v15 + i2_10 : Int32).toInt = (v15.toInt + i2_10.toInt) := mz_add2 rfl rfl (by have := kKR_10.1 15 _ _ rfl; have := kKR_10.1 16 _ _ rfl; have := kKR_10.1 19 _ _ rfl; omega) (by have := kKR_10.1 15 _ _ rfl; have := kKR_10.1 16 _ _ rfl; have := kKR_10.1 19 _ _ rfl; omega)
            refine tr_baldR (o := o0) (k := 13) I_10 q12 t_a13 (by decide) d_TrustDeskModel_isWord_46 (vp_in_iff.mpr (by have := kKR_10.1 15 _ _ rfl; have := kKR_10.1 16 _ _ rfl; have := kKR_10.1 19 _ _ rfl; omega)) (fun v17 e18 => ?_)
            have := kKR_10.a (k := 13) rfl ((v15 + i2_10) : Int32).toNatClampNeg
            refine mv_aload_n d_TrustDeskModel_isWord_47 rfl rfl ?_
            refine mv_iload_n d_TrustDeskModel_isWord_48 rfl rfl ?_
            refine mv_schN (i := 28) (N := 4) d_TrustDeskModel_isWord_49 lV_TrustDeskModel_220 (by decide) rfl rfl (by omega) (by omega) (Nat.le_of_ble_eq_true rfl) (fun v19 => ?_)
            have := mz_hi v17
            have := mz_hi v19
            refine mv_icmp_eqZ (tgt := 57) (a := v17.toInt) (b := v19.toInt) d_TrustDeskModel_isWord_52 (by decide) rfl rfl (fun b20 => ?_) (fun b20 => ?_)
            · refine mv_iinc (v := (i2_10 + 1)) (lv' := [(2, .int (i2_10 + 1)), (0, .ref o0), (1, .ref 38)]) d_TrustDeskModel_isWord_57 rfl rfl (by decide) rfl ?_
              refine mv_goto (tgt := 28) d_TrustDeskModel_isWord_60 (by decide) ?_
              have b21 : (i2_10 + 1).toInt = i2_10.toInt + 1 := mz_addn 1 1 (by decide) (by have := mz_lo i2_10; omega) (by have := mz_hi i2_10; omega)
              exact (ih10 (i2_10 + 1) T_10 M_10 n_10 I_10 h_q0_10 (by have := kKR_10.1 15 _ _ rfl; have := kKR_10.1 16 _ _ rfl; have := kKR_10.1 19 _ _ rfl; first | omega | decide) (by have := kKR_10.1 15 _ _ rfl; have := kKR_10.1 16 _ _ rfl; have := kKR_10.1 19 _ _ rfl; first | omega | decide) (by have := kKR_10.1 15 _ _ rfl; have := kKR_10.1 16 _ _ rfl; have := kKR_10.1 19 _ _ rfl; first | omega | decide) (by have := kKR_10.1 15 _ _ rfl; have := kKR_10.1 16 _ _ rfl; have := kKR_10.1 19 _ _ rfl; first | omega | decide) kKR_10 (by have := kKR_10.1 15 _ _ rfl; have := kKR_10.1 16 _ _ rfl; have := kKR_10.1 19 _ _ rfl; omega))
            · refine mv_iconst (v := 0) d_TrustDeskModel_isWord_55 (by decide) ?_
              exact mv_iret d_TrustDeskModel_isWord_56 rfl (by decide) ⟨_, I_10, _, rfl, by decide, by decide, kKR_10, (fun h => absurd h (by decide))⟩
      exact mv_less (Nat.zero_le _) (Nat.zero_le _) (L28_10 4294967296 0 T0 M0 n0 I0 h_o0 (by have := yR.1 15 _ _ rfl; have := yR.1 16 _ _ rfl; have := yR.1 19 _ _ rfl; first | omega | decide) (by have := yR.1 15 _ _ rfl; have := yR.1 16 _ _ rfl; have := yR.1 19 _ _ rfl; first | omega | decide) (by have := yR.1 15 _ _ rfl; have := yR.1 16 _ _ rfl; have := yR.1 19 _ _ rfl; first | omega | decide) (by have := yR.1 15 _ _ rfl; have := yR.1 16 _ _ rfl; have := yR.1 19 _ _ rfl; first | omega | decide) yR (by show (2147483647 - (0 : Int) : Int) < _; decide))
    · refine mv_iconst (v := 0) d_TrustDeskModel_isWord_24 (by decide) ?_
      exact mv_iret d_TrustDeskModel_isWord_25 rfl (by decide) ⟨_, I0, _, rfl, by decide, by decide, yR, (fun h => absurd h (by decide))⟩
theorem d_TrustDeskModel_name_178 : decode kY_TrustDeskModel_name.2.1 178 = .ok (.ifCond .eq 8, 3) := by decide +kernel
theorem d_TrustDeskModel_name_186 : decode kY_TrustDeskModel_name.2.1 186 = .ok (.aload_n 0, 1) := by decide +kernel
theorem d_TrustDeskModel_name_187 : decode kY_TrustDeskModel_name.2.1 187 = .ok (.ldc_w 275, 3) := by decide +kernel
theorem d_TrustDeskModel_name_190 : decode kY_TrustDeskModel_name.2.1 190 = .ok (.invokevirtual 244, 3) := by decide +kernel
def w_TrustDeskModel_isWord_s1_39_x : List Nat := []
theorem tc_TrustDeskModel_isWord_s1_39_x {g : mj_G} {l : Launch} {d : Nat} {T0 : tm_H} {M0 : mj_M} {n0 x9 : Nat} {o0 : Nat} (h_o0 : T0 o0 = some (0, 13, 0)) (yR : rI M0 o0) (I0 : tm_I tm_FT (tm_in w_TrustDeskModel_isWord_s1_39_x) x9 T0 M0 n0 T0 M0 n0) : mj_Met g l kY_TrustDeskModel_isWord (d + 4) [.ref o0, .ref 39] M0 n0 0 0 (tm_Q tm_FT (tm_in w_TrustDeskModel_isWord_s1_39_x) x9 T0 M0 n0 (fun r _ M => ∃ v : Int32, r = some (.int v) ∧ 0 ≤ v.toInt ∧ v.toInt ≤ 1 ∧ rI M o0 ∧ (v.toInt = 1 → rv M0 o0 17 = 3))) := by
  refine mj_enter (by decide) (Nat.le_of_ble_eq_true rfl) ?_
  refine mv_aload_n d_TrustDeskModel_isWord_0 rfl rfl ?_
  obtain ⟨v2, q1⟩ := tm_atI I0 h_o0 (k := 17) rfl
  refine tr_getK q1 d_TrustDeskModel_isWord_1 f_TrustDeskModel_198_13 ?_
  have := tm_rv q1
  refine mv_iconst (v := 3) d_TrustDeskModel_isWord_4 (by decide) ?_
  have := mz_hi v2
  refine mv_icmp_neZ (tgt := 24) (a := v2.toInt) (b := 3) d_TrustDeskModel_isWord_5 (by decide) rfl (by decide) (fun b3 => ?_) (fun b3 => ?_)
  · refine mv_iconst (v := 0) d_TrustDeskModel_isWord_24 (by decide) ?_
    exact mv_iret d_TrustDeskModel_isWord_25 rfl (by decide) ⟨_, I0, _, rfl, by decide, by decide, yR, (fun h => absurd h (by decide))⟩
  · refine mv_aload_n d_TrustDeskModel_isWord_8 rfl rfl ?_
    obtain ⟨v5, q4⟩ := tm_atI I0 h_o0 (k := 15) rfl
    refine tr_getK q4 d_TrustDeskModel_isWord_9 f_TrustDeskModel_192_13 ?_
    have := yR.f (k := 15) q4 rfl
    have := tm_rv q4
    refine mv_aload_n d_TrustDeskModel_isWord_12 rfl rfl ?_
    obtain ⟨v7, q6⟩ := tm_atI I0 h_o0 (k := 16) rfl
    refine tr_getK q6 d_TrustDeskModel_isWord_13 f_TrustDeskModel_195_13 ?_
    have := yR.f (k := 16) q6 rfl
    have := tm_rv q6
    refine mv_isub d_TrustDeskModel_isWord_16 ?_
    refine mv_aload_n d_TrustDeskModel_isWord_17 rfl rfl ?_
    refine mv_slenK (i := 29) (v := 5) d_TrustDeskModel_isWord_18 lV_TrustDeskModel_214 (by decide) rfl (by decide) (Nat.le_of_ble_eq_true rfl) ?_
    have b8 : (v5 - v7 : Int32).toInt = (v5.toInt - v7.toInt) := mz_sub2 rfl rfl (by have := yR.1 15 _ _ rfl; have := yR.1 16 _ _ rfl; have := yR.1 19 _ _ rfl; omega) (by have := yR.1 15 _ _ rfl; have := yR.1 16 _ _ rfl; have := yR.1 19 _ _ rfl; omega)
    have := mz_hi (v5 - v7)
    refine mv_icmp_eqZ (tgt := 26) (a := (v5 - v7).toInt) (b := 5) d_TrustDeskModel_isWord_21 (by decide) rfl (by decide) (fun b9 => ?_) (fun b9 => ?_)
    · refine mv_iconst (v := 0) d_TrustDeskModel_isWord_26 (by decide) ?_
      refine mv_istore_n (lv' := [(2, .int 0), (0, .ref o0), (1, .ref 39)]) d_TrustDeskModel_isWord_27 rfl (by decide) rfl ?_
      have L28_10 : ∀ (k : Nat) (i2_10 : Int32) (T_10 : tm_H) (M_10 : mj_M) (n_10 : Nat), tm_I tm_FT (tm_in w_TrustDeskModel_isWord_s1_39_x) x9 T0 M0 n0 T_10 M_10 n_10 → T_10 o0 = some (0, 13, 0) → 0 ≤ i2_10.toInt → rv M_10 o0 15 = rv M0 o0 15 → rv M_10 o0 16 = rv M0 o0 16 → i2_10.toInt ≤ 2147483646 → (rI M_10 o0) → 2147483647 - i2_10.toInt < (k : Int) → mj_V g l kY_TrustDeskModel_isWord (d + 4) 28 [(2, .int i2_10), (0, .ref o0), (1, .ref 39)] [] M_10 n_10 0 0 (tm_Q tm_FT (tm_in w_TrustDeskModel_isWord_s1_39_x) x9 T0 M0 n0 (fun r _ M => ∃ v : Int32, r = some (.int v) ∧ 0 ≤ v.toInt ∧ v.toInt ≤ 1 ∧ rI M o0 ∧ (v.toInt = 1 → rv M0 o0 17 = 3))) := by
        intro k10
        induction k10 with
        | zero =>
          intro i2_10 T_10 M_10 n_10 I_10 h_q0_10 iv0_10 iv1_10 iv2_10 iv3_10 kKR_10 hk10
          have := mz_hi i2_10
          have := kKR_10.1 15 _ _ rfl
          have := kKR_10.1 16 _ _ rfl
          have := kKR_10.1 19 _ _ rfl
          omega
        | succ k10 ih10 =>
          intro i2_10 T_10 M_10 n_10 I_10 h_q0_10 iv0_10 iv1_10 iv2_10 iv3_10 kKR_10 hk10
          refine mv_iload_n d_TrustDeskModel_isWord_28 rfl rfl ?_
          refine mv_aload_n d_TrustDeskModel_isWord_29 rfl rfl ?_
          refine mv_slenK (i := 29) (v := 5) d_TrustDeskModel_isWord_30 lV_TrustDeskModel_214 (by decide) rfl (by decide) (Nat.le_of_ble_eq_true rfl) ?_
          have := mz_hi i2_10
          refine mv_icmp_geZ (tgt := 63) (a := i2_10.toInt) (b := 5) d_TrustDeskModel_isWord_33 (by decide) rfl (by decide) (fun b11 => ?_) (fun b11 => ?_)
          · refine mv_iconst (v := 1) d_TrustDeskModel_isWord_63 (by decide) ?_
            exact mv_iret d_TrustDeskModel_isWord_64 rfl (by decide) ⟨_, I_10, _, rfl, by decide, by decide, kKR_10, (fun _ => by omega)⟩
          · refine mv_aload_n d_TrustDeskModel_isWord_36 rfl rfl ?_
            obtain ⟨a13, q12, t_a13⟩ := tm_atR I_10 h_q0_10 (k := 13) rfl
            refine tr_getK q12 d_TrustDeskModel_isWord_37 f_TrustDeskModel_44_13 ?_
            refine mv_aload_n d_TrustDeskModel_isWord_40 rfl rfl ?_
            obtain ⟨v15, q14⟩ := tm_atI I_10 h_q0_10 (k := 16) rfl
            refine tr_getK q14 d_TrustDeskModel_isWord_41 f_TrustDeskModel_195_13 ?_
            have := kKR_10.f (k := 16) q14 rfl
            have := tm_rv q14
            refine mv_iload_n d_TrustDeskModel_isWord_44 rfl rfl ?_
            refine mv_iadd d_TrustDeskModel_isWord_45 ?_
            have b16 : (v15 + i2_10 : Int32).toInt = (v15.toInt + i2_10.toInt) := mz_add2 rfl rfl (by have := kKR_10.1 15 _ _ rfl; have := kKR_10.1 16 _ _ rfl; have := kKR_10.1 19 _ _ rfl; omega) (by have := kKR_10.1 15 _ _ rfl; have := kKR_10.1 16 _ _ rfl; have := kKR_10.1 19 _ _ rfl; omega)
            refine tr_baldR (o := o0) (k := 13) I_10 q12 t_a13 (by decide) d_TrustDeskModel_isWord_46 (vp_in_iff.mpr (by have := kKR_10.1 15 _ _ rfl; have := kKR_10.1 16 _ _ rfl; have := kKR_10.1 19 _ _ rfl; omega)) (fun v17 e18 => ?_)
            have := kKR_10.a (k := 13) rfl ((v15 + i2_10) : Int32).toNatClampNeg
            refine mv_aload_n d_TrustDeskModel_isWord_47 rfl rfl ?_
            refine mv_iload_n d_TrustDeskModel_isWord_48 rfl rfl ?_
            refine mv_schN (i := 29) (N := 5) d_TrustDeskModel_isWord_49 lV_TrustDeskModel_220 (by decide) rfl rfl (by omega) (by omega) (Nat.le_of_ble_eq_true rfl) (fun v19 => ?_)
            have := mz_hi v17
            have := mz_hi v19
            refine mv_icmp_eqZ (tgt := 57) (a := v17.toInt) (b := v19.toInt) d_TrustDeskModel_isWord_52 (by decide) rfl rfl (fun b20 => ?_) (fun b20 => ?_)
            · refine mv_iinc (v := (i2_10 + 1)) (lv' := [(2, .int (i2_10 + 1)), (0, .ref o0), (1, .ref 39)]) d_TrustDeskModel_isWord_57 rfl rfl (by decide) rfl ?_
              refine mv_goto (tgt := 28) d_TrustDeskModel_isWord_60 (by decide) ?_
              have b21 : (i2_10 + 1).toInt = i2_10.toInt + 1 := mz_addn 1 1 (by decide) (by have := mz_lo i2_10; omega) (by have := mz_hi i2_10; omega)
              exact (ih10 (i2_10 + 1) T_10 M_10 n_10 I_10 h_q0_10 (by have := kKR_10.1 15 _ _ rfl; have := kKR_10.1 16 _ _ rfl; have := kKR_10.1 19 _ _ rfl; first | omega | decide) (by have := kKR_10.1 15 _ _ rfl; have := kKR_10.1 16 _ _ rfl; have := kKR_10.1 19 _ _ rfl; first | omega | decide) (by have := kKR_10.1 15 _ _ rfl; have := kKR_10.1 16 _ _ rfl; have := kKR_10.1 19 _ _ rfl; first | omega | decide) (by have := kKR_10.1 15 _ _ rfl; have := kKR_10.1 16 _ _ rfl; have := kKR_10.1 19 _ _ rfl; first | omega | decide) kKR_10 (by have := kKR_10.1 15 _ _ rfl; have := kKR_10.1 16 _ _ rfl; have := kKR_10.1 19 _ _ rfl; omega))
            · refine mv_iconst (v := 0) d_TrustDeskModel_isWord_55 (by decide) ?_
              exact mv_iret d_TrustDeskModel_isWord_56 rfl (by decide) ⟨_, I_10, _, rfl, by decide, by decide, kKR_10, (fun h => absurd h (by decide))⟩
      exact mv_less (Nat.zero_le _) (Nat.zero_le _) (L28_10 4294967296 0 T0 M0 n0 I0 h_o0 (by have := yR.1 15 _ _ rfl; have := yR.1 16 _ _ rfl; have := yR.1 19 _ _ rfl; first | omega | decide) (by have := yR.1 15 _ _ rfl; have := yR.1 16 _ _ rfl; have := yR.1 19 _ _ rfl; first | omega | decide) (by have := yR.1 15 _ _ rfl; have := yR.1 16 _ _ rfl; have := yR.1 19 _ _ rfl; first | omega | decide) (by have := yR.1 15 _ _ rfl; have := yR.1 16 _ _ rfl; have := yR.1 19 _ _ rfl; first | omega | decide) yR (by show (2147483647 - (0 : Int) : Int) < _; decide))
    · refine mv_iconst (v := 0) d_TrustDeskModel_isWord_24 (by decide) ?_
      exact mv_iret d_TrustDeskModel_isWord_25 rfl (by decide) ⟨_, I0, _, rfl, by decide, by decide, yR, (fun h => absurd h (by decide))⟩
theorem d_TrustDeskModel_name_193 : decode kY_TrustDeskModel_name.2.1 193 = .ok (.ifCond .eq 8, 3) := by decide +kernel
theorem d_TrustDeskModel_name_201 : decode kY_TrustDeskModel_name.2.1 201 = .ok (.iconst (-1), 1) := by decide +kernel
theorem d_TrustDeskModel_name_202 : decode kY_TrustDeskModel_name.2.1 202 = .ok (.ireturn, 1) := by decide +kernel
theorem d_TrustDeskModel_name_196 : decode kY_TrustDeskModel_name.2.1 196 = .ok (.bipush 12, 2) := by decide +kernel
theorem d_TrustDeskModel_name_198 : decode kY_TrustDeskModel_name.2.1 198 = .ok (.goto 4, 3) := by decide +kernel
theorem d_TrustDeskModel_name_181 : decode kY_TrustDeskModel_name.2.1 181 = .ok (.bipush 11, 2) := by decide +kernel
theorem d_TrustDeskModel_name_183 : decode kY_TrustDeskModel_name.2.1 183 = .ok (.goto 19, 3) := by decide +kernel
theorem d_TrustDeskModel_name_166 : decode kY_TrustDeskModel_name.2.1 166 = .ok (.bipush 10, 2) := by decide +kernel
theorem d_TrustDeskModel_name_168 : decode kY_TrustDeskModel_name.2.1 168 = .ok (.goto 34, 3) := by decide +kernel
theorem d_TrustDeskModel_name_154 : decode kY_TrustDeskModel_name.2.1 154 = .ok (.iload_n 1, 1) := by decide +kernel
theorem d_TrustDeskModel_name_155 : decode kY_TrustDeskModel_name.2.1 155 = .ok (.ireturn, 1) := by decide +kernel
theorem d_TrustDeskModel_name_135 : decode kY_TrustDeskModel_name.2.1 135 = .ok (.bipush 9, 2) := by decide +kernel
theorem d_TrustDeskModel_name_137 : decode kY_TrustDeskModel_name.2.1 137 = .ok (.goto 4, 3) := by decide +kernel
theorem d_TrustDeskModel_name_120 : decode kY_TrustDeskModel_name.2.1 120 = .ok (.bipush 8, 2) := by decide +kernel
theorem d_TrustDeskModel_name_122 : decode kY_TrustDeskModel_name.2.1 122 = .ok (.goto 19, 3) := by decide +kernel
theorem d_TrustDeskModel_name_105 : decode kY_TrustDeskModel_name.2.1 105 = .ok (.bipush 7, 2) := by decide +kernel
theorem d_TrustDeskModel_name_107 : decode kY_TrustDeskModel_name.2.1 107 = .ok (.goto 34, 3) := by decide +kernel
theorem d_TrustDeskModel_name_90 : decode kY_TrustDeskModel_name.2.1 90 = .ok (.bipush 6, 2) := by decide +kernel
theorem d_TrustDeskModel_name_92 : decode kY_TrustDeskModel_name.2.1 92 = .ok (.goto 49, 3) := by decide +kernel
theorem d_TrustDeskModel_name_76 : decode kY_TrustDeskModel_name.2.1 76 = .ok (.iconst 5, 1) := by decide +kernel
theorem d_TrustDeskModel_name_77 : decode kY_TrustDeskModel_name.2.1 77 = .ok (.goto 64, 3) := by decide +kernel
theorem d_TrustDeskModel_name_62 : decode kY_TrustDeskModel_name.2.1 62 = .ok (.iconst 4, 1) := by decide +kernel
theorem d_TrustDeskModel_name_63 : decode kY_TrustDeskModel_name.2.1 63 = .ok (.goto 78, 3) := by decide +kernel
theorem d_TrustDeskModel_name_48 : decode kY_TrustDeskModel_name.2.1 48 = .ok (.iconst 3, 1) := by decide +kernel
theorem d_TrustDeskModel_name_49 : decode kY_TrustDeskModel_name.2.1 49 = .ok (.goto 92, 3) := by decide +kernel
theorem d_TrustDeskModel_name_35 : decode kY_TrustDeskModel_name.2.1 35 = .ok (.iconst 2, 1) := by decide +kernel
theorem d_TrustDeskModel_name_36 : decode kY_TrustDeskModel_name.2.1 36 = .ok (.goto 105, 3) := by decide +kernel
theorem d_TrustDeskModel_name_22 : decode kY_TrustDeskModel_name.2.1 22 = .ok (.iconst 1, 1) := by decide +kernel
theorem d_TrustDeskModel_name_23 : decode kY_TrustDeskModel_name.2.1 23 = .ok (.goto 118, 3) := by decide +kernel
theorem d_TrustDeskModel_name_9 : decode kY_TrustDeskModel_name.2.1 9 = .ok (.iconst 0, 1) := by decide +kernel
theorem d_TrustDeskModel_name_10 : decode kY_TrustDeskModel_name.2.1 10 = .ok (.goto 131, 3) := by decide +kernel
def w_TrustDeskModel_name_x : List Nat := []
theorem tc_TrustDeskModel_name_x {g : mj_G} {l : Launch} {d : Nat} {T0 : tm_H} {M0 : mj_M} {n0 x9 : Nat} {o0 : Nat} (h_o0 : T0 o0 = some (0, 13, 0)) (yR : rI M0 o0) (I0 : tm_I tm_FT (tm_in w_TrustDeskModel_name_x) x9 T0 M0 n0 T0 M0 n0) : mj_Met g l kY_TrustDeskModel_name (d + 5) [.ref o0] M0 n0 0 0 (tm_Q tm_FT (tm_in w_TrustDeskModel_name_x) x9 T0 M0 n0 (fun r _ M => ∃ v : Int32, r = some (.int v) ∧ rI M o0 ∧ (-1 ≤ v.toInt ∧ v.toInt ≤ 12))) := by
  refine mj_enter (by decide) (Nat.le_of_ble_eq_true rfl) ?_
  refine mv_aload_n d_TrustDeskModel_name_0 rfl rfl ?_
  refine mv_ldcS (id := 27) (tx := "poor") d_TrustDeskModel_name_1 (List.mem_of_getElem? (i := 17) rfl) ?_
  obtain ⟨_, b7, -⟩ := I0.1 _ _ h_o0
  refine mv_callV (kc' := 0) (ks' := 0) (As := [.ref 27]) (st9 := [.ref 27, .ref o0]) d_TrustDeskModel_name_3 lV_TrustDeskModel_244 b7 rfl (tc_TrustDeskModel_isWord_s1_27_x (d := d) (x9 := x9) (o0 := o0) h_o0 yR I0.start) rfl (Nat.le_of_ble_eq_true rfl) (Nat.le_of_ble_eq_true rfl) (Nat.le_of_ble_eq_true rfl) (hst := rfl) (fun b1r M2 n3 b1 => ?_)
  obtain ⟨T4, J5, v8, rfl, b9, b10, R11, f12⟩ := b1
  have I6 := I0.call J5 (tm_sub (by decide)) (Or.inl rfl)
  have t13 := J5.up h_o0
  have := (rv_c I0 J5 (I0.up h_o0) (k := 16) rfl)
  have := (rv_c I0 J5 (I0.up h_o0) (k := 17) rfl)
  have := (rv_c I0 J5 (I0.up h_o0) (k := 19) rfl)
  have := (rv_c I0 J5 (I0.up h_o0) (k := 22) rfl)
  have := mz_hi v8
  refine mv_if_eqZ (tgt := 13) (a := v8.toInt) d_TrustDeskModel_name_6 (by decide) rfl (fun b14 => ?_) (fun b14 => ?_)
  · refine mv_aload_n d_TrustDeskModel_name_13 rfl rfl ?_
    refine mv_ldcS (id := 28) (tx := "maids") d_TrustDeskModel_name_14 (List.mem_of_getElem? (i := 18) rfl) ?_
    obtain ⟨_, b21, -⟩ := I6.1 _ _ t13
    refine mv_callV (kc' := 0) (ks' := 0) (As := [.ref 28]) (st9 := [.ref 28, .ref o0]) d_TrustDeskModel_name_16 lV_TrustDeskModel_244 b21 rfl (tc_TrustDeskModel_isWord_s1_28_x (d := d) (x9 := x9) (o0 := o0) t13 R11 I6.start) rfl (Nat.le_of_ble_eq_true rfl) (Nat.le_of_ble_eq_true rfl) (Nat.le_of_ble_eq_true rfl) (hst := rfl) (fun b15r M16 n17 b15 => ?_)
    obtain ⟨T18, J19, v22, rfl, b23, b24, R25, f26⟩ := b15
    have I20 := I6.call J19 (tm_sub (by decide)) (Or.inl rfl)
    have t27 := J19.up t13
    have := (rv_c I6 J19 (I6.up h_o0) (k := 16) rfl)
    have := (rv_c I6 J19 (I6.up h_o0) (k := 17) rfl)
    have := (rv_c I6 J19 (I6.up h_o0) (k := 19) rfl)
    have := (rv_c I6 J19 (I6.up h_o0) (k := 22) rfl)
    have := mz_hi v22
    refine mv_if_eqZ (tgt := 26) (a := v22.toInt) d_TrustDeskModel_name_19 (by decide) rfl (fun b28 => ?_) (fun b28 => ?_)
    · refine mv_aload_n d_TrustDeskModel_name_26 rfl rfl ?_
      refine mv_ldcS (id := 29) (tx := "boys") d_TrustDeskModel_name_27 (List.mem_of_getElem? (i := 19) rfl) ?_
      obtain ⟨_, b35, -⟩ := I20.1 _ _ t27
      refine mv_callV (kc' := 0) (ks' := 0) (As := [.ref 29]) (st9 := [.ref 29, .ref o0]) d_TrustDeskModel_name_29 lV_TrustDeskModel_244 b35 rfl (tc_TrustDeskModel_isWord_s1_29_x (d := d) (x9 := x9) (o0 := o0) t27 R25 I20.start) rfl (Nat.le_of_ble_eq_true rfl) (Nat.le_of_ble_eq_true rfl) (Nat.le_of_ble_eq_true rfl) (hst := rfl) (fun b29r M30 n31 b29 => ?_)
      obtain ⟨T32, J33, v36, rfl, b37, b38, R39, f40⟩ := b29
      have I34 := I20.call J33 (tm_sub (by decide)) (Or.inl rfl)
      have t41 := J33.up t27
      have := (rv_c I20 J33 (I20.up h_o0) (k := 16) rfl)
      have := (rv_c I20 J33 (I20.up h_o0) (k := 17) rfl)
      have := (rv_c I20 J33 (I20.up h_o0) (k := 19) rfl)
      have := (rv_c I20 J33 (I20.up h_o0) (k := 22) rfl)
      have := mz_hi v36
      refine mv_if_eqZ (tgt := 39) (a := v36.toInt) d_TrustDeskModel_name_32 (by decide) rfl (fun b42 => ?_) (fun b42 => ?_)
      · refine mv_aload_n d_TrustDeskModel_name_39 rfl rfl ?_
        refine mv_ldcS (id := 30) (tx := "sick") d_TrustDeskModel_name_40 (List.mem_of_getElem? (i := 20) rfl) ?_
        obtain ⟨_, b49, -⟩ := I34.1 _ _ t41
        refine mv_callV (kc' := 0) (ks' := 0) (As := [.ref 30]) (st9 := [.ref 30, .ref o0]) d_TrustDeskModel_name_42 lV_TrustDeskModel_244 b49 rfl (tc_TrustDeskModel_isWord_s1_30_x (d := d) (x9 := x9) (o0 := o0) t41 R39 I34.start) rfl (Nat.le_of_ble_eq_true rfl) (Nat.le_of_ble_eq_true rfl) (Nat.le_of_ble_eq_true rfl) (hst := rfl) (fun b43r M44 n45 b43 => ?_)
        obtain ⟨T46, J47, v50, rfl, b51, b52, R53, f54⟩ := b43
        have I48 := I34.call J47 (tm_sub (by decide)) (Or.inl rfl)
        have t55 := J47.up t41
        have := (rv_c I34 J47 (I34.up h_o0) (k := 16) rfl)
        have := (rv_c I34 J47 (I34.up h_o0) (k := 17) rfl)
        have := (rv_c I34 J47 (I34.up h_o0) (k := 19) rfl)
        have := (rv_c I34 J47 (I34.up h_o0) (k := 22) rfl)
        have := mz_hi v50
        refine mv_if_eqZ (tgt := 52) (a := v50.toInt) d_TrustDeskModel_name_45 (by decide) rfl (fun b56 => ?_) (fun b56 => ?_)
        · refine mv_aload_n d_TrustDeskModel_name_52 rfl rfl ?_
          refine mv_ldcSw (id := 31) (tx := "bread") d_TrustDeskModel_name_53 (List.mem_of_getElem? (i := 21) rfl) ?_
          obtain ⟨_, b63, -⟩ := I48.1 _ _ t55
          refine mv_callV (kc' := 0) (ks' := 0) (As := [.ref 31]) (st9 := [.ref 31, .ref o0]) d_TrustDeskModel_name_56 lV_TrustDeskModel_244 b63 rfl (tc_TrustDeskModel_isWord_s1_31_x (d := d) (x9 := x9) (o0 := o0) t55 R53 I48.start) rfl (Nat.le_of_ble_eq_true rfl) (Nat.le_of_ble_eq_true rfl) (Nat.le_of_ble_eq_true rfl) (hst := rfl) (fun b57r M58 n59 b57 => ?_)
          obtain ⟨T60, J61, v64, rfl, b65, b66, R67, f68⟩ := b57
          have I62 := I48.call J61 (tm_sub (by decide)) (Or.inl rfl)
          have t69 := J61.up t55
          have := (rv_c I48 J61 (I48.up h_o0) (k := 16) rfl)
          have := (rv_c I48 J61 (I48.up h_o0) (k := 17) rfl)
          have := (rv_c I48 J61 (I48.up h_o0) (k := 19) rfl)
          have := (rv_c I48 J61 (I48.up h_o0) (k := 22) rfl)
          have := mz_hi v64
          refine mv_if_eqZ (tgt := 66) (a := v64.toInt) d_TrustDeskModel_name_59 (by decide) rfl (fun b70 => ?_) (fun b70 => ?_)
          · refine mv_aload_n d_TrustDeskModel_name_66 rfl rfl ?_
            refine mv_ldcSw (id := 32) (tx := "coal") d_TrustDeskModel_name_67 (List.mem_of_getElem? (i := 22) rfl) ?_
            obtain ⟨_, b77, -⟩ := I62.1 _ _ t69
            refine mv_callV (kc' := 0) (ks' := 0) (As := [.ref 32]) (st9 := [.ref 32, .ref o0]) d_TrustDeskModel_name_70 lV_TrustDeskModel_244 b77 rfl (tc_TrustDeskModel_isWord_s1_32_x (d := d) (x9 := x9) (o0 := o0) t69 R67 I62.start) rfl (Nat.le_of_ble_eq_true rfl) (Nat.le_of_ble_eq_true rfl) (Nat.le_of_ble_eq_true rfl) (hst := rfl) (fun b71r M72 n73 b71 => ?_)
            obtain ⟨T74, J75, v78, rfl, b79, b80, R81, f82⟩ := b71
            have I76 := I62.call J75 (tm_sub (by decide)) (Or.inl rfl)
            have t83 := J75.up t69
            have := (rv_c I62 J75 (I62.up h_o0) (k := 16) rfl)
            have := (rv_c I62 J75 (I62.up h_o0) (k := 17) rfl)
            have := (rv_c I62 J75 (I62.up h_o0) (k := 19) rfl)
            have := (rv_c I62 J75 (I62.up h_o0) (k := 22) rfl)
            have := mz_hi v78
            refine mv_if_eqZ (tgt := 80) (a := v78.toInt) d_TrustDeskModel_name_73 (by decide) rfl (fun b84 => ?_) (fun b84 => ?_)
            · refine mv_aload_n d_TrustDeskModel_name_80 rfl rfl ?_
              refine mv_ldcSw (id := 33) (tx := "rent") d_TrustDeskModel_name_81 (List.mem_of_getElem? (i := 23) rfl) ?_
              obtain ⟨_, b91, -⟩ := I76.1 _ _ t83
              refine mv_callV (kc' := 0) (ks' := 0) (As := [.ref 33]) (st9 := [.ref 33, .ref o0]) d_TrustDeskModel_name_84 lV_TrustDeskModel_244 b91 rfl (tc_TrustDeskModel_isWord_s1_33_x (d := d) (x9 := x9) (o0 := o0) t83 R81 I76.start) rfl (Nat.le_of_ble_eq_true rfl) (Nat.le_of_ble_eq_true rfl) (Nat.le_of_ble_eq_true rfl) (hst := rfl) (fun b85r M86 n87 b85 => ?_)
              obtain ⟨T88, J89, v92, rfl, b93, b94, R95, f96⟩ := b85
              have I90 := I76.call J89 (tm_sub (by decide)) (Or.inl rfl)
              have t97 := J89.up t83
              have := (rv_c I76 J89 (I76.up h_o0) (k := 16) rfl)
              have := (rv_c I76 J89 (I76.up h_o0) (k := 17) rfl)
              have := (rv_c I76 J89 (I76.up h_o0) (k := 19) rfl)
              have := (rv_c I76 J89 (I76.up h_o0) (k := 22) rfl)
              have := mz_hi v92
              refine mv_if_eqZ (tgt := 95) (a := v92.toInt) d_TrustDeskModel_name_87 (by decide) rfl (fun b98 => ?_) (fun b98 => ?_)
              · refine mv_aload_n d_TrustDeskModel_name_95 rfl rfl ?_
                refine mv_ldcSw (id := 34) (tx := "lake") d_TrustDeskModel_name_96 (List.mem_of_getElem? (i := 24) rfl) ?_
                obtain ⟨_, b105, -⟩ := I90.1 _ _ t97
                refine mv_callV (kc' := 0) (ks' := 0) (As := [.ref 34]) (st9 := [.ref 34, .ref o0]) d_TrustDeskModel_name_99 lV_TrustDeskModel_244 b105 rfl (tc_TrustDeskModel_isWord_s1_34_x (d := d) (x9 := x9) (o0 := o0) t97 R95 I90.start) rfl (Nat.le_of_ble_eq_true rfl) (Nat.le_of_ble_eq_true rfl) (Nat.le_of_ble_eq_true rfl) (hst := rfl) (fun b99r M100 n101 b99 => ?_)
                obtain ⟨T102, J103, v106, rfl, b107, b108, R109, f110⟩ := b99
                have I104 := I90.call J103 (tm_sub (by decide)) (Or.inl rfl)
                have t111 := J103.up t97
                have := (rv_c I90 J103 (I90.up h_o0) (k := 16) rfl)
                have := (rv_c I90 J103 (I90.up h_o0) (k := 17) rfl)
                have := (rv_c I90 J103 (I90.up h_o0) (k := 19) rfl)
                have := (rv_c I90 J103 (I90.up h_o0) (k := 22) rfl)
                have := mz_hi v106
                refine mv_if_eqZ (tgt := 110) (a := v106.toInt) d_TrustDeskModel_name_102 (by decide) rfl (fun b112 => ?_) (fun b112 => ?_)
                · refine mv_aload_n d_TrustDeskModel_name_110 rfl rfl ?_
                  refine mv_ldcSw (id := 35) (tx := "income") d_TrustDeskModel_name_111 (List.mem_of_getElem? (i := 25) rfl) ?_
                  obtain ⟨_, b119, -⟩ := I104.1 _ _ t111
                  refine mv_callV (kc' := 0) (ks' := 0) (As := [.ref 35]) (st9 := [.ref 35, .ref o0]) d_TrustDeskModel_name_114 lV_TrustDeskModel_244 b119 rfl (tc_TrustDeskModel_isWord_s1_35_x (d := d) (x9 := x9) (o0 := o0) t111 R109 I104.start) rfl (Nat.le_of_ble_eq_true rfl) (Nat.le_of_ble_eq_true rfl) (Nat.le_of_ble_eq_true rfl) (hst := rfl) (fun b113r M114 n115 b113 => ?_)
                  obtain ⟨T116, J117, v120, rfl, b121, b122, R123, f124⟩ := b113
                  have I118 := I104.call J117 (tm_sub (by decide)) (Or.inl rfl)
                  have t125 := J117.up t111
                  have := (rv_c I104 J117 (I104.up h_o0) (k := 16) rfl)
                  have := (rv_c I104 J117 (I104.up h_o0) (k := 17) rfl)
                  have := (rv_c I104 J117 (I104.up h_o0) (k := 19) rfl)
                  have := (rv_c I104 J117 (I104.up h_o0) (k := 22) rfl)
                  have := mz_hi v120
                  refine mv_if_eqZ (tgt := 125) (a := v120.toInt) d_TrustDeskModel_name_117 (by decide) rfl (fun b126 => ?_) (fun b126 => ?_)
                  · refine mv_aload_n d_TrustDeskModel_name_125 rfl rfl ?_
                    refine mv_ldcSw (id := 36) (tx := "coin") d_TrustDeskModel_name_126 (List.mem_of_getElem? (i := 26) rfl) ?_
                    obtain ⟨_, b133, -⟩ := I118.1 _ _ t125
                    refine mv_callV (kc' := 0) (ks' := 0) (As := [.ref 36]) (st9 := [.ref 36, .ref o0]) d_TrustDeskModel_name_129 lV_TrustDeskModel_244 b133 rfl (tc_TrustDeskModel_isWord_s1_36_x (d := d) (x9 := x9) (o0 := o0) t125 R123 I118.start) rfl (Nat.le_of_ble_eq_true rfl) (Nat.le_of_ble_eq_true rfl) (Nat.le_of_ble_eq_true rfl) (hst := rfl) (fun b127r M128 n129 b127 => ?_)
                    obtain ⟨T130, J131, v134, rfl, b135, b136, R137, f138⟩ := b127
                    have I132 := I118.call J131 (tm_sub (by decide)) (Or.inl rfl)
                    have t139 := J131.up t125
                    have := (rv_c I118 J131 (I118.up h_o0) (k := 16) rfl)
                    have := (rv_c I118 J131 (I118.up h_o0) (k := 17) rfl)
                    have := (rv_c I118 J131 (I118.up h_o0) (k := 19) rfl)
                    have := (rv_c I118 J131 (I118.up h_o0) (k := 22) rfl)
                    have := mz_hi v134
                    refine mv_if_eqZ (tgt := 140) (a := v134.toInt) d_TrustDeskModel_name_132 (by decide) rfl (fun b140 => ?_) (fun b140 => ?_)
                    · refine mv_iconst (v := (-1)) d_TrustDeskModel_name_140 (by decide) ?_
                      refine mv_istore_n (lv' := [(1, .int (-1)), (0, .ref o0)]) d_TrustDeskModel_name_141 rfl (by decide) rfl ?_
                      refine mv_iload_n d_TrustDeskModel_name_142 rfl rfl ?_
                      refine mv_iconst (v := (-1)) d_TrustDeskModel_name_143 (by decide) ?_
                      refine mv_icmp_ne_f (tgt := 154) d_TrustDeskModel_name_144 (by decide) (by decide) ?_
                      refine mv_aload_n d_TrustDeskModel_name_147 rfl rfl ?_
                      obtain ⟨v142, q141⟩ := tm_atI I132 t139 (k := 23) rfl
                      refine tr_getK q141 d_TrustDeskModel_name_148 f_TrustDeskModel_267_13 ?_
                      have := mz_hi v142
                      refine mv_if_neZ (tgt := 156) (a := v142.toInt) d_TrustDeskModel_name_151 (by decide) rfl (fun b143 => ?_) (fun b143 => ?_)
                      · refine mv_aload_n d_TrustDeskModel_name_156 rfl rfl ?_
                        refine mv_ldcSw (id := 37) (tx := "living") d_TrustDeskModel_name_157 (List.mem_of_getElem? (i := 27) rfl) ?_
                        obtain ⟨_, b150, -⟩ := I132.1 _ _ t139
                        refine mv_callV (kc' := 0) (ks' := 0) (As := [.ref 37]) (st9 := [.ref 37, .ref o0]) d_TrustDeskModel_name_160 lV_TrustDeskModel_244 b150 rfl (tc_TrustDeskModel_isWord_s1_37_x (d := d) (x9 := x9) (o0 := o0) t139 R137 I132.start) rfl (Nat.le_of_ble_eq_true rfl) (Nat.le_of_ble_eq_true rfl) (Nat.le_of_ble_eq_true rfl) (hst := rfl) (fun b144r M145 n146 b144 => ?_)
                        obtain ⟨T147, J148, v151, rfl, b152, b153, R154, f155⟩ := b144
                        have I149 := I132.call J148 (tm_sub (by decide)) (Or.inl rfl)
                        have t156 := J148.up t139
                        have := (rv_c I132 J148 (I132.up h_o0) (k := 16) rfl)
                        have := (rv_c I132 J148 (I132.up h_o0) (k := 17) rfl)
                        have := (rv_c I132 J148 (I132.up h_o0) (k := 19) rfl)
                        have := (rv_c I132 J148 (I132.up h_o0) (k := 22) rfl)
                        have q157 := J148.keep t139 (by decide) q141
                        have := mz_hi v151
                        refine mv_if_eqZ (tgt := 171) (a := v151.toInt) d_TrustDeskModel_name_163 (by decide) rfl (fun b158 => ?_) (fun b158 => ?_)
                        · refine mv_aload_n d_TrustDeskModel_name_171 rfl rfl ?_
                          refine mv_ldcSw (id := 38) (tx := "dead") d_TrustDeskModel_name_172 (List.mem_of_getElem? (i := 28) rfl) ?_
                          obtain ⟨_, b165, -⟩ := I149.1 _ _ t156
                          refine mv_callV (kc' := 0) (ks' := 0) (As := [.ref 38]) (st9 := [.ref 38, .ref o0]) d_TrustDeskModel_name_175 lV_TrustDeskModel_244 b165 rfl (tc_TrustDeskModel_isWord_s1_38_x (d := d) (x9 := x9) (o0 := o0) t156 R154 I149.start) rfl (Nat.le_of_ble_eq_true rfl) (Nat.le_of_ble_eq_true rfl) (Nat.le_of_ble_eq_true rfl) (hst := rfl) (fun b159r M160 n161 b159 => ?_)
                          obtain ⟨T162, J163, v166, rfl, b167, b168, R169, f170⟩ := b159
                          have I164 := I149.call J163 (tm_sub (by decide)) (Or.inl rfl)
                          have t171 := J163.up t156
                          have := (rv_c I149 J163 (I149.up h_o0) (k := 16) rfl)
                          have := (rv_c I149 J163 (I149.up h_o0) (k := 17) rfl)
                          have := (rv_c I149 J163 (I149.up h_o0) (k := 19) rfl)
                          have := (rv_c I149 J163 (I149.up h_o0) (k := 22) rfl)
                          have q172 := J163.keep t156 (by decide) q157
                          have := mz_hi v166
                          refine mv_if_eqZ (tgt := 186) (a := v166.toInt) d_TrustDeskModel_name_178 (by decide) rfl (fun b173 => ?_) (fun b173 => ?_)
                          · refine mv_aload_n d_TrustDeskModel_name_186 rfl rfl ?_
                            refine mv_ldcSw (id := 39) (tx := "marks") d_TrustDeskModel_name_187 (List.mem_of_getElem? (i := 29) rfl) ?_
                            obtain ⟨_, b180, -⟩ := I164.1 _ _ t171
                            refine mv_callV (kc' := 0) (ks' := 0) (As := [.ref 39]) (st9 := [.ref 39, .ref o0]) d_TrustDeskModel_name_190 lV_TrustDeskModel_244 b180 rfl (tc_TrustDeskModel_isWord_s1_39_x (d := d) (x9 := x9) (o0 := o0) t171 R169 I164.start) rfl (Nat.le_of_ble_eq_true rfl) (Nat.le_of_ble_eq_true rfl) (Nat.le_of_ble_eq_true rfl) (hst := rfl) (fun b174r M175 n176 b174 => ?_)
                            obtain ⟨T177, J178, v181, rfl, b182, b183, R184, f185⟩ := b174
                            have I179 := I164.call J178 (tm_sub (by decide)) (Or.inl rfl)
                            have t186 := J178.up t171
                            have := (rv_c I164 J178 (I164.up h_o0) (k := 16) rfl)
                            have := (rv_c I164 J178 (I164.up h_o0) (k := 17) rfl)
                            have := (rv_c I164 J178 (I164.up h_o0) (k := 19) rfl)
                            have := (rv_c I164 J178 (I164.up h_o0) (k := 22) rfl)
                            have q187 := J178.keep t171 (by decide) q172
                            have := mz_hi v181
                            refine mv_if_eqZ (tgt := 201) (a := v181.toInt) d_TrustDeskModel_name_193 (by decide) rfl (fun b188 => ?_) (fun b188 => ?_)
                            · refine mv_iconst (v := (-1)) d_TrustDeskModel_name_201 (by decide) ?_
                              exact mv_iret d_TrustDeskModel_name_202 rfl (by first | rfl | decide) ⟨_, I179, _, rfl, R184, (by decide)⟩
                            · refine mv_bipush (v := 12) d_TrustDeskModel_name_196 (by decide) ?_
                              refine mv_goto (tgt := 202) d_TrustDeskModel_name_198 (by decide) ?_
                              exact mv_iret d_TrustDeskModel_name_202 rfl (by first | rfl | decide) ⟨_, I179, _, rfl, R184, (by decide)⟩
                          · refine mv_bipush (v := 11) d_TrustDeskModel_name_181 (by decide) ?_
                            refine mv_goto (tgt := 202) d_TrustDeskModel_name_183 (by decide) ?_
                            exact mv_iret d_TrustDeskModel_name_202 rfl (by first | rfl | decide) ⟨_, I164, _, rfl, R169, (by decide)⟩
                        · refine mv_bipush (v := 10) d_TrustDeskModel_name_166 (by decide) ?_
                          refine mv_goto (tgt := 202) d_TrustDeskModel_name_168 (by decide) ?_
                          exact mv_iret d_TrustDeskModel_name_202 rfl (by first | rfl | decide) ⟨_, I149, _, rfl, R154, (by decide)⟩
                      · refine mv_iload_n d_TrustDeskModel_name_154 rfl rfl ?_
                        exact mv_iret d_TrustDeskModel_name_155 rfl (by first | rfl | decide) ⟨_, I132, _, rfl, R137, (by decide)⟩
                    · refine mv_bipush (v := 9) d_TrustDeskModel_name_135 (by decide) ?_
                      refine mv_goto (tgt := 141) d_TrustDeskModel_name_137 (by decide) ?_
                      refine mv_istore_n (lv' := [(1, .int 9), (0, .ref o0)]) d_TrustDeskModel_name_141 rfl (by decide) rfl ?_
                      refine mv_iload_n d_TrustDeskModel_name_142 rfl rfl ?_
                      refine mv_iconst (v := (-1)) d_TrustDeskModel_name_143 (by decide) ?_
                      refine mv_icmp_ne_t (tgt := 154) d_TrustDeskModel_name_144 (by decide) (by decide) ?_
                      refine mv_iload_n d_TrustDeskModel_name_154 rfl rfl ?_
                      exact mv_iret d_TrustDeskModel_name_155 rfl (by first | rfl | decide) ⟨_, I132, _, rfl, R137, (by decide)⟩
                  · refine mv_bipush (v := 8) d_TrustDeskModel_name_120 (by decide) ?_
                    refine mv_goto (tgt := 141) d_TrustDeskModel_name_122 (by decide) ?_
                    refine mv_istore_n (lv' := [(1, .int 8), (0, .ref o0)]) d_TrustDeskModel_name_141 rfl (by decide) rfl ?_
                    refine mv_iload_n d_TrustDeskModel_name_142 rfl rfl ?_
                    refine mv_iconst (v := (-1)) d_TrustDeskModel_name_143 (by decide) ?_
                    refine mv_icmp_ne_t (tgt := 154) d_TrustDeskModel_name_144 (by decide) (by decide) ?_
                    refine mv_iload_n d_TrustDeskModel_name_154 rfl rfl ?_
                    exact mv_iret d_TrustDeskModel_name_155 rfl (by first | rfl | decide) ⟨_, I118, _, rfl, R123, (by decide)⟩
                · refine mv_bipush (v := 7) d_TrustDeskModel_name_105 (by decide) ?_
                  refine mv_goto (tgt := 141) d_TrustDeskModel_name_107 (by decide) ?_
                  refine mv_istore_n (lv' := [(1, .int 7), (0, .ref o0)]) d_TrustDeskModel_name_141 rfl (by decide) rfl ?_
                  refine mv_iload_n d_TrustDeskModel_name_142 rfl rfl ?_
                  refine mv_iconst (v := (-1)) d_TrustDeskModel_name_143 (by decide) ?_
                  refine mv_icmp_ne_t (tgt := 154) d_TrustDeskModel_name_144 (by decide) (by decide) ?_
                  refine mv_iload_n d_TrustDeskModel_name_154 rfl rfl ?_
                  exact mv_iret d_TrustDeskModel_name_155 rfl (by first | rfl | decide) ⟨_, I104, _, rfl, R109, (by decide)⟩
              · refine mv_bipush (v := 6) d_TrustDeskModel_name_90 (by decide) ?_
                refine mv_goto (tgt := 141) d_TrustDeskModel_name_92 (by decide) ?_
                refine mv_istore_n (lv' := [(1, .int 6), (0, .ref o0)]) d_TrustDeskModel_name_141 rfl (by decide) rfl ?_
                refine mv_iload_n d_TrustDeskModel_name_142 rfl rfl ?_
                refine mv_iconst (v := (-1)) d_TrustDeskModel_name_143 (by decide) ?_
                refine mv_icmp_ne_t (tgt := 154) d_TrustDeskModel_name_144 (by decide) (by decide) ?_
                refine mv_iload_n d_TrustDeskModel_name_154 rfl rfl ?_
                exact mv_iret d_TrustDeskModel_name_155 rfl (by first | rfl | decide) ⟨_, I90, _, rfl, R95, (by decide)⟩
            · refine mv_iconst (v := 5) d_TrustDeskModel_name_76 (by decide) ?_
              refine mv_goto (tgt := 141) d_TrustDeskModel_name_77 (by decide) ?_
              refine mv_istore_n (lv' := [(1, .int 5), (0, .ref o0)]) d_TrustDeskModel_name_141 rfl (by decide) rfl ?_
              refine mv_iload_n d_TrustDeskModel_name_142 rfl rfl ?_
              refine mv_iconst (v := (-1)) d_TrustDeskModel_name_143 (by decide) ?_
              refine mv_icmp_ne_t (tgt := 154) d_TrustDeskModel_name_144 (by decide) (by decide) ?_
              refine mv_iload_n d_TrustDeskModel_name_154 rfl rfl ?_
              exact mv_iret d_TrustDeskModel_name_155 rfl (by first | rfl | decide) ⟨_, I76, _, rfl, R81, (by decide)⟩
          · refine mv_iconst (v := 4) d_TrustDeskModel_name_62 (by decide) ?_
            refine mv_goto (tgt := 141) d_TrustDeskModel_name_63 (by decide) ?_
            refine mv_istore_n (lv' := [(1, .int 4), (0, .ref o0)]) d_TrustDeskModel_name_141 rfl (by decide) rfl ?_
            refine mv_iload_n d_TrustDeskModel_name_142 rfl rfl ?_
            refine mv_iconst (v := (-1)) d_TrustDeskModel_name_143 (by decide) ?_
            refine mv_icmp_ne_t (tgt := 154) d_TrustDeskModel_name_144 (by decide) (by decide) ?_
            refine mv_iload_n d_TrustDeskModel_name_154 rfl rfl ?_
            exact mv_iret d_TrustDeskModel_name_155 rfl (by first | rfl | decide) ⟨_, I62, _, rfl, R67, (by decide)⟩
        · refine mv_iconst (v := 3) d_TrustDeskModel_name_48 (by decide) ?_
          refine mv_goto (tgt := 141) d_TrustDeskModel_name_49 (by decide) ?_
          refine mv_istore_n (lv' := [(1, .int 3), (0, .ref o0)]) d_TrustDeskModel_name_141 rfl (by decide) rfl ?_
          refine mv_iload_n d_TrustDeskModel_name_142 rfl rfl ?_
          refine mv_iconst (v := (-1)) d_TrustDeskModel_name_143 (by decide) ?_
          refine mv_icmp_ne_t (tgt := 154) d_TrustDeskModel_name_144 (by decide) (by decide) ?_
          refine mv_iload_n d_TrustDeskModel_name_154 rfl rfl ?_
          exact mv_iret d_TrustDeskModel_name_155 rfl (by first | rfl | decide) ⟨_, I48, _, rfl, R53, (by decide)⟩
      · refine mv_iconst (v := 2) d_TrustDeskModel_name_35 (by decide) ?_
        refine mv_goto (tgt := 141) d_TrustDeskModel_name_36 (by decide) ?_
        refine mv_istore_n (lv' := [(1, .int 2), (0, .ref o0)]) d_TrustDeskModel_name_141 rfl (by decide) rfl ?_
        refine mv_iload_n d_TrustDeskModel_name_142 rfl rfl ?_
        refine mv_iconst (v := (-1)) d_TrustDeskModel_name_143 (by decide) ?_
        refine mv_icmp_ne_t (tgt := 154) d_TrustDeskModel_name_144 (by decide) (by decide) ?_
        refine mv_iload_n d_TrustDeskModel_name_154 rfl rfl ?_
        exact mv_iret d_TrustDeskModel_name_155 rfl (by first | rfl | decide) ⟨_, I34, _, rfl, R39, (by decide)⟩
    · refine mv_iconst (v := 1) d_TrustDeskModel_name_22 (by decide) ?_
      refine mv_goto (tgt := 141) d_TrustDeskModel_name_23 (by decide) ?_
      refine mv_istore_n (lv' := [(1, .int 1), (0, .ref o0)]) d_TrustDeskModel_name_141 rfl (by decide) rfl ?_
      refine mv_iload_n d_TrustDeskModel_name_142 rfl rfl ?_
      refine mv_iconst (v := (-1)) d_TrustDeskModel_name_143 (by decide) ?_
      refine mv_icmp_ne_t (tgt := 154) d_TrustDeskModel_name_144 (by decide) (by decide) ?_
      refine mv_iload_n d_TrustDeskModel_name_154 rfl rfl ?_
      exact mv_iret d_TrustDeskModel_name_155 rfl (by first | rfl | decide) ⟨_, I20, _, rfl, R25, (by decide)⟩
  · refine mv_iconst (v := 0) d_TrustDeskModel_name_9 (by decide) ?_
    refine mv_goto (tgt := 141) d_TrustDeskModel_name_10 (by decide) ?_
    refine mv_istore_n (lv' := [(1, .int 0), (0, .ref o0)]) d_TrustDeskModel_name_141 rfl (by decide) rfl ?_
    refine mv_iload_n d_TrustDeskModel_name_142 rfl rfl ?_
    refine mv_iconst (v := (-1)) d_TrustDeskModel_name_143 (by decide) ?_
    refine mv_icmp_ne_t (tgt := 154) d_TrustDeskModel_name_144 (by decide) (by decide) ?_
    refine mv_iload_n d_TrustDeskModel_name_154 rfl rfl ?_
    exact mv_iret d_TrustDeskModel_name_155 rfl (by first | rfl | decide) ⟨_, I6, _, rfl, R11, (by decide)⟩
theorem lV_TrustDeskModel_282 : mj_lV "TrustDeskModel" 282 kY_TrustDeskModel_name 0 := ⟨⟨(mj_in1 (List.mem_of_getElem? (i := 1749) (by decide +kernel)) rfl), (mj_in1 (List.mem_of_getElem? (i := 10) (by decide +kernel)) rfl), (mj_in1 (List.mem_of_getElem? (i := 1752) (by decide +kernel)) rfl), by decide, rfl, by decide⟩, (mj_in1 (List.mem_of_getElem? (i := 1751) (by decide +kernel)) rfl), (mj_in (List.mem_append_left _ (List.mem_of_getElem? (i := 101) (by decide +kernel))) rfl)⟩
theorem d_TrustDeskModel_factor_43 : decode kY_TrustDeskModel_factor.2.1 43 = .ok (.istore_n 1, 1) := by decide +kernel
theorem d_TrustDeskModel_factor_44 : decode kY_TrustDeskModel_factor.2.1 44 = .ok (.iload_n 1, 1) := by decide +kernel
theorem d_TrustDeskModel_factor_45 : decode kY_TrustDeskModel_factor.2.1 45 = .ok (.iconst (-1), 1) := by decide +kernel
theorem d_TrustDeskModel_factor_46 : decode kY_TrustDeskModel_factor.2.1 46 = .ok (.if_icmp .ne 8, 3) := by decide +kernel
theorem d_TrustDeskModel_factor_54 : decode kY_TrustDeskModel_factor.2.1 54 = .ok (.aload_n 0, 1) := by decide +kernel
theorem d_TrustDeskModel_factor_55 : decode kY_TrustDeskModel_factor.2.1 55 = .ok (.sipush 10000, 3) := by decide +kernel
theorem d_TrustDeskModel_factor_58 : decode kY_TrustDeskModel_factor.2.1 58 = .ok (.iload_n 1, 1) := by decide +kernel
theorem d_TrustDeskModel_factor_59 : decode kY_TrustDeskModel_factor.2.1 59 = .ok (.iadd, 1) := by decide +kernel
theorem d_TrustDeskModel_factor_60 : decode kY_TrustDeskModel_factor.2.1 60 = .ok (.invokevirtual 279, 3) := by decide +kernel
abbrev kY_TrustDeskModel_emits : mj_Y := (⟨"TrustDeskModel", "emits", "(I)V"⟩, prog_14_method_24_code, 2, (Option.none : Option Jvm.ClassFile.FieldType))
theorem d_TrustDeskModel_emits_0 : decode kY_TrustDeskModel_emits.2.1 0 = .ok (.aload_n 0, 1) := by decide +kernel
theorem d_TrustDeskModel_emits_1 : decode kY_TrustDeskModel_emits.2.1 1 = .ok (.invokevirtual 230, 3) := by decide +kernel
theorem d_TrustDeskModel_emits_4 : decode kY_TrustDeskModel_emits.2.1 4 = .ok (.ifCond .ne 4, 3) := by decide +kernel
theorem d_TrustDeskModel_emits_7 : decode kY_TrustDeskModel_emits.2.1 7 = .ok (.return_, 1) := by decide +kernel
theorem d_TrustDeskModel_emits_8 : decode kY_TrustDeskModel_emits.2.1 8 = .ok (.aload_n 0, 1) := by decide +kernel
theorem d_TrustDeskModel_emits_9 : decode kY_TrustDeskModel_emits.2.1 9 = .ok (.getfield 17, 3) := by decide +kernel
theorem f_TrustDeskModel_17_13 : mj_fl "TrustDeskModel" 17 13 4 := ⟨kR_TrustDeskModel, kF_TrustDeskModel, 72, "TrustDeskModel", rfl, kg_13, by decide, (mj_in1 (List.mem_of_getElem? (i := 1390) (by decide +kernel)) rfl), Or.inl rfl⟩
theorem d_TrustDeskModel_emits_12 : decode kY_TrustDeskModel_emits.2.1 12 = .ok (.sipush 18480, 3) := by decide +kernel
theorem d_TrustDeskModel_emits_15 : decode kY_TrustDeskModel_emits.2.1 15 = .ok (.aload_n 0, 1) := by decide +kernel
theorem d_TrustDeskModel_emits_16 : decode kY_TrustDeskModel_emits.2.1 16 = .ok (.getfield 20, 3) := by decide +kernel
theorem f_TrustDeskModel_20_13 : mj_fl "TrustDeskModel" 20 13 5 := ⟨kR_TrustDeskModel, kF_TrustDeskModel, 72, "TrustDeskModel", rfl, kg_13, by decide, (mj_in1 (List.mem_of_getElem? (i := 1391) (by decide +kernel)) rfl), Or.inl rfl⟩
theorem d_TrustDeskModel_emits_19 : decode kY_TrustDeskModel_emits.2.1 19 = .ok (.bipush 44, 2) := by decide +kernel
theorem d_TrustDeskModel_emits_21 : decode kY_TrustDeskModel_emits.2.1 21 = .ok (.iaload, 1) := by decide +kernel
theorem d_TrustDeskModel_emits_22 : decode kY_TrustDeskModel_emits.2.1 22 = .ok (.iadd, 1) := by decide +kernel
theorem d_TrustDeskModel_emits_23 : decode kY_TrustDeskModel_emits.2.1 23 = .ok (.iload_n 1, 1) := by decide +kernel
theorem d_TrustDeskModel_emits_24 : decode kY_TrustDeskModel_emits.2.1 24 = .ok (.iastore, 1) := by decide +kernel
theorem d_TrustDeskModel_emits_25 : decode kY_TrustDeskModel_emits.2.1 25 = .ok (.aload_n 0, 1) := by decide +kernel
theorem d_TrustDeskModel_emits_26 : decode kY_TrustDeskModel_emits.2.1 26 = .ok (.getfield 20, 3) := by decide +kernel
theorem d_TrustDeskModel_emits_29 : decode kY_TrustDeskModel_emits.2.1 29 = .ok (.bipush 44, 2) := by decide +kernel
theorem d_TrustDeskModel_emits_31 : decode kY_TrustDeskModel_emits.2.1 31 = .ok (.dup2, 1) := by decide +kernel
theorem d_TrustDeskModel_emits_32 : decode kY_TrustDeskModel_emits.2.1 32 = .ok (.iaload, 1) := by decide +kernel
theorem d_TrustDeskModel_emits_33 : decode kY_TrustDeskModel_emits.2.1 33 = .ok (.iconst 1, 1) := by decide +kernel
theorem d_TrustDeskModel_emits_34 : decode kY_TrustDeskModel_emits.2.1 34 = .ok (.iadd, 1) := by decide +kernel
theorem d_TrustDeskModel_emits_35 : decode kY_TrustDeskModel_emits.2.1 35 = .ok (.iastore, 1) := by decide +kernel
theorem d_TrustDeskModel_emits_36 : decode kY_TrustDeskModel_emits.2.1 36 = .ok (.return_, 1) := by decide +kernel
def w_TrustDeskModel_emits_x : List Nat := [20004, 20005]
theorem tc_TrustDeskModel_emits_x {g : mj_G} {l : Launch} {d : Nat} {T0 : tm_H} {M0 : mj_M} {n0 x9 : Nat} {o0 : Nat} {x1 : Int32} (h_o0 : T0 o0 = some (0, 13, 0)) (yR : rI M0 o0) (ye : rv M0 o0 19 = 0 → ra M0 o0 5 44 ≤ 399) (ys : -9 ≤ x1.toInt ∧ x1.toInt ≤ 10012) (I0 : tm_I tm_FT (tm_in w_TrustDeskModel_emits_x) x9 T0 M0 n0 T0 M0 n0) : mj_Met g l kY_TrustDeskModel_emits (d + 1) [.ref o0, .int x1] M0 n0 0 0 (tm_Q tm_FT (tm_in w_TrustDeskModel_emits_x) x9 T0 M0 n0 (fun r _ M => r = none ∧ rI M o0 ∧ (rM M0 M o0 x1.toInt))) := by
  refine mj_enter (by decide) (Nat.le_of_ble_eq_true rfl) ?_
  refine mv_aload_n d_TrustDeskModel_emits_0 rfl rfl ?_
  obtain ⟨_, b1, -⟩ := I0.1 _ _ h_o0
  refine mv_callV (kc1 := 0) (ks1 := 0) (kc' := 0) (ks' := 0) (As := []) (st9 := [.ref o0]) d_TrustDeskModel_emits_1 lV_TrustDeskModel_230 b1 rfl (mj_enter (by decide) (Nat.le_of_ble_eq_true rfl) ?_) rfl (Nat.le_of_ble_eq_true rfl) (Nat.le_of_ble_eq_true rfl) (Nat.le_of_ble_eq_true rfl) (hst := rfl) (fun _ _ _ h => h)
  refine mv_aload_n d_TrustDeskModel_isWell_0 rfl rfl ?_
  obtain ⟨v3, q2⟩ := tm_atI I0 h_o0 (k := 19) rfl
  refine tr_getK q2 d_TrustDeskModel_isWell_1 f_TrustDeskModel_224_13 ?_
  have := yR.f (k := 19) q2 rfl
  have := tm_rv q2
  have := mz_hi v3
  refine mv_if_neZ (tgt := 11) (a := v3.toInt) d_TrustDeskModel_isWell_4 (by decide) rfl (fun b4 => ?_) (fun b4 => ?_)
  · refine mv_iconst (v := 0) d_TrustDeskModel_isWell_11 (by decide) ?_
    refine mv_iret d_TrustDeskModel_isWell_12 rfl (by decide) ?_
    refine mv_if_ne_f (tgt := 8) d_TrustDeskModel_emits_4 (by decide) (by decide) ?_
    exact mv_vret d_TrustDeskModel_emits_7 rfl ⟨_, I0, rfl, yR, ⟨fun _ _ => rfl, fun h => absurd h (by omega), fun _ => rfl⟩⟩
  · refine mv_iconst (v := 1) d_TrustDeskModel_isWell_7 (by decide) ?_
    refine mv_goto (tgt := 12) d_TrustDeskModel_isWell_8 (by decide) ?_
    refine mv_iret d_TrustDeskModel_isWell_12 rfl (by decide) ?_
    refine mv_if_ne_t (tgt := 8) d_TrustDeskModel_emits_4 (by decide) (by decide) ?_
    refine mv_aload_n d_TrustDeskModel_emits_8 rfl rfl ?_
    obtain ⟨a6, q5, t_a6⟩ := tm_atR I0 h_o0 (k := 4) rfl
    refine tr_getK q5 d_TrustDeskModel_emits_9 f_TrustDeskModel_17_13 ?_
    refine mv_sipush (v := 18480) d_TrustDeskModel_emits_12 (by decide) ?_
    refine mv_aload_n d_TrustDeskModel_emits_15 rfl rfl ?_
    obtain ⟨a8, q7, t_a8⟩ := tm_atR I0 h_o0 (k := 5) rfl
    refine tr_getK q7 d_TrustDeskModel_emits_16 f_TrustDeskModel_20_13 ?_
    refine mv_bipush (v := 44) d_TrustDeskModel_emits_19 (by decide) ?_
    refine tr_ialdR (o := o0) (k := 5) I0 q7 t_a8 (by decide) d_TrustDeskModel_emits_21 (by unfold vp_in; decide) (fun v9 e10 => ?_)
    have := yR.a (k := 5) rfl (44 : Int32).toNatClampNeg
    have : v9.toInt = ra M0 o0 5 44 := e10
    refine mv_iadd d_TrustDeskModel_emits_22 ?_
    refine mv_iload_n d_TrustDeskModel_emits_23 rfl rfl ?_
    have b11 : (18480 + v9 : Int32).toInt = (18480 + v9.toInt) := mz_add2 (by decide) rfl (by have := yR.1 15 _ _ rfl; have := yR.1 16 _ _ rfl; have := yR.1 19 _ _ rfl; omega) (by have := yR.1 15 _ _ rfl; have := yR.1 16 _ _ rfl; have := yR.1 19 _ _ rfl; omega)
    refine tr_iastR (k := 4) I0 yR (I0.up h_o0) q5 t_a6 (by decide) (by decide) (fun lo hi h => by cases h; have := yR.1 15 _ _ rfl; have := yR.1 16 _ _ rfl; have := yR.1 19 _ _ rfl; exact ⟨by show ((-9) : Int) ≤ x1.toInt; omega, by show x1.toInt ≤ (10012 : Int); omega⟩) (Or.inl (by decide)) d_TrustDeskModel_emits_24 (vp_in_iff.mpr (by have := yR.1 15 _ _ rfl; have := yR.1 16 _ _ rfl; have := yR.1 19 _ _ rfl; omega)) (fun M12 I13 K14 R15 E16 A17 V18 => ?_)
    have := V18 16
    have := V18 17
    have := V18 19
    have := V18 22
    have := A17 5 (by decide) rfl 44
    refine mv_aload_n d_TrustDeskModel_emits_25 rfl rfl ?_
    refine tr_getK (k := 5) (K14 _ 13 5 _ q7) d_TrustDeskModel_emits_26 f_TrustDeskModel_20_13 ?_
    refine mv_bipush (v := 44) d_TrustDeskModel_emits_29 (by decide) ?_
    refine mv_dup2_11 d_TrustDeskModel_emits_31 rfl rfl ?_
    refine tr_ialdR (o := o0) (k := 5) I13 (K14 _ 13 5 _ q7) t_a8 (by decide) d_TrustDeskModel_emits_32 (by unfold vp_in; decide) (fun v19 e20 => ?_)
    have := R15.a (k := 5) rfl (44 : Int32).toNatClampNeg
    have : v19.toInt = ra M12 o0 5 44 := e20
    refine mv_iconst (v := 1) d_TrustDeskModel_emits_33 (by decide) ?_
    refine mv_iadd d_TrustDeskModel_emits_34 ?_
    have b21 : (v19 + 1 : Int32).toInt = (v19.toInt + 1) := mz_add2 rfl (by decide) (by have := R15.1 15 _ _ rfl; have := R15.1 16 _ _ rfl; have := R15.1 19 _ _ rfl; omega) (by have := R15.1 15 _ _ rfl; have := R15.1 16 _ _ rfl; have := R15.1 19 _ _ rfl; omega)
    refine tr_iastR (k := 5) I13 R15 (I13.up h_o0) (K14 _ 13 5 _ q7) t_a8 (by decide) (by decide) (fun lo hi h => by cases h; have := R15.1 15 _ _ rfl; have := R15.1 16 _ _ rfl; have := R15.1 19 _ _ rfl; exact ⟨by show (0 : Int) ≤ (v19 + 1).toInt; omega, by show (v19 + 1).toInt ≤ (400 : Int); omega⟩) (Or.inl (by decide)) d_TrustDeskModel_emits_35 (by unfold vp_in; decide) (fun M22 I23 K24 R25 E26 A27 V28 => ?_)
    have := V28 16
    have := V28 17
    have := V28 19
    have := V28 22
    have : ra M22 o0 5 44 = (v19 + 1).toInt := (E26 44).trans (if_pos (by decide))
    exact mv_vret d_TrustDeskModel_emits_36 rfl ⟨_, I23, rfl, R25, (rM.of (by omega) (by omega) (M1 := M12) E16 (by rw [mz_nat9 (by omega)]; omega) (A27 4 (by decide) rfl) (by omega))⟩
theorem lV_TrustDeskModel_279 : mj_lV "TrustDeskModel" 279 kY_TrustDeskModel_emits 1 := ⟨⟨(mj_in1 (List.mem_of_getElem? (i := 1745) (by decide +kernel)) rfl), (mj_in1 (List.mem_of_getElem? (i := 10) (by decide +kernel)) rfl), (mj_in1 (List.mem_of_getElem? (i := 1748) (by decide +kernel)) rfl), by decide, rfl, by decide⟩, (mj_in1 (List.mem_of_getElem? (i := 1747) (by decide +kernel)) rfl), (mj_in (List.mem_append_left _ (List.mem_of_getElem? (i := 100) (by decide +kernel))) rfl)⟩
theorem d_TrustDeskModel_factor_63 : decode kY_TrustDeskModel_factor.2.1 63 = .ok (.aload_n 0, 1) := by decide +kernel
theorem d_TrustDeskModel_factor_64 : decode kY_TrustDeskModel_factor.2.1 64 = .ok (.invokevirtual 230, 3) := by decide +kernel
theorem d_TrustDeskModel_factor_67 : decode kY_TrustDeskModel_factor.2.1 67 = .ok (.ifCond .eq 7, 3) := by decide +kernel
theorem d_TrustDeskModel_factor_70 : decode kY_TrustDeskModel_factor.2.1 70 = .ok (.aload_n 0, 1) := by decide +kernel
theorem d_TrustDeskModel_factor_71 : decode kY_TrustDeskModel_factor.2.1 71 = .ok (.invokevirtual 237, 3) := by decide +kernel
theorem d_TrustDeskModel_factor_74 : decode kY_TrustDeskModel_factor.2.1 74 = .ok (.goto 44, 3) := by decide +kernel
theorem d_TrustDeskModel_factor_49 : decode kY_TrustDeskModel_factor.2.1 49 = .ok (.aload_n 0, 1) := by decide +kernel
theorem d_TrustDeskModel_factor_50 : decode kY_TrustDeskModel_factor.2.1 50 = .ok (.iconst 3, 1) := by decide +kernel
theorem d_TrustDeskModel_factor_51 : decode kY_TrustDeskModel_factor.2.1 51 = .ok (.invokevirtual 240, 3) := by decide +kernel
theorem d_TrustDeskModel_factor_16 : decode kY_TrustDeskModel_factor.2.1 16 = .ok (.aload_n 0, 1) := by decide +kernel
theorem d_TrustDeskModel_factor_17 : decode kY_TrustDeskModel_factor.2.1 17 = .ok (.aload_n 0, 1) := by decide +kernel
theorem d_TrustDeskModel_factor_18 : decode kY_TrustDeskModel_factor.2.1 18 = .ok (.getfield 201, 3) := by decide +kernel
theorem d_TrustDeskModel_factor_21 : decode kY_TrustDeskModel_factor.2.1 21 = .ok (.invokevirtual 279, 3) := by decide +kernel
theorem d_TrustDeskModel_factor_24 : decode kY_TrustDeskModel_factor.2.1 24 = .ok (.aload_n 0, 1) := by decide +kernel
theorem d_TrustDeskModel_factor_25 : decode kY_TrustDeskModel_factor.2.1 25 = .ok (.invokevirtual 237, 3) := by decide +kernel
theorem d_TrustDeskModel_factor_28 : decode kY_TrustDeskModel_factor.2.1 28 = .ok (.goto 90, 3) := by decide +kernel
def w_TrustDeskModel_factor_q1_x : List Nat := [1315, 1316, 1317, 1318, 1319, 1320, 1322, 20004, 20005]
theorem tc_TrustDeskModel_factor_q1_x {g : mj_G} {l : Launch} {d : Nat} {T0 : tm_H} {M0 : mj_M} {n0 x9 : Nat} {o0 : Nat} (h_o0 : T0 o0 = some (0, 13, 0)) (yR : rI M0 o0) (yT : rT M0 o0) (yS : rv M0 o0 19 = 0 → ra M0 o0 5 44 ≤ rv M0 o0 16) (yL : rv M0 o0 19 ≠ 0 ∨ (4 ≤ rv M0 o0 22 ∧ rv M0 o0 22 ≤ 4)) (I0 : tm_I tm_FT (tm_in w_TrustDeskModel_factor_q1_x) x9 T0 M0 n0 T0 M0 n0) : mj_Met g l kY_TrustDeskModel_factor (d + 6) [.ref o0] M0 n0 0 0 (tm_Q tm_FT (tm_in w_TrustDeskModel_factor_q1_x) x9 T0 M0 n0 (fun r _ M => r = none ∧ rI M o0 ∧ (rE M0 M o0 1 0) ∧ (rv M o0 19 = 0 → rv M o0 22 = rv M0 o0 22))) := by
  refine mj_enter (by decide) (Nat.le_of_ble_eq_true rfl) ?_
  have yE0 := rE.rf yT
  refine mv_aload_n d_TrustDeskModel_factor_0 rfl rfl ?_
  obtain ⟨_, b1, -⟩ := I0.1 _ _ h_o0
  refine mv_callV (kc1 := 0) (ks1 := 0) (kc' := 0) (ks' := 0) (As := []) (st9 := [.ref o0]) d_TrustDeskModel_factor_1 lV_TrustDeskModel_230 b1 rfl (mj_enter (by decide) (Nat.le_of_ble_eq_true rfl) ?_) rfl (Nat.le_of_ble_eq_true rfl) (Nat.le_of_ble_eq_true rfl) (Nat.le_of_ble_eq_true rfl) (hst := rfl) (fun _ _ _ h => h)
  refine mv_aload_n d_TrustDeskModel_isWell_0 rfl rfl ?_
  obtain ⟨v3, q2⟩ := tm_atI I0 h_o0 (k := 19) rfl
  refine tr_getK q2 d_TrustDeskModel_isWell_1 f_TrustDeskModel_224_13 ?_
  have := yR.f (k := 19) q2 rfl
  have := tm_rv q2
  have := mz_hi v3
  refine mv_if_neZ (tgt := 11) (a := v3.toInt) d_TrustDeskModel_isWell_4 (by decide) rfl (fun b4 => ?_) (fun b4 => ?_)
  · refine mv_iconst (v := 0) d_TrustDeskModel_isWell_11 (by decide) ?_
    refine mv_iret d_TrustDeskModel_isWell_12 rfl (by decide) ?_
    refine mv_if_ne_f (tgt := 8) d_TrustDeskModel_factor_4 (by decide) (by decide) ?_
    exact mv_vret d_TrustDeskModel_factor_7 rfl ⟨_, I0, rfl, yR, yE0.vac (by have := yR.1 15 _ _ rfl; have := yR.1 16 _ _ rfl; have := yR.1 19 _ _ rfl; have := yE0.f yS; omega) 1 0, (by have := yR.1 15 _ _ rfl; have := yR.1 16 _ _ rfl; have := yR.1 19 _ _ rfl; have := yE0.f yS; omega)⟩
  · refine mv_iconst (v := 1) d_TrustDeskModel_isWell_7 (by decide) ?_
    refine mv_goto (tgt := 12) d_TrustDeskModel_isWell_8 (by decide) ?_
    refine mv_iret d_TrustDeskModel_isWell_12 rfl (by decide) ?_
    refine mv_if_ne_t (tgt := 8) d_TrustDeskModel_factor_4 (by decide) (by decide) ?_
    refine mv_aload_n d_TrustDeskModel_factor_8 rfl rfl ?_
    obtain ⟨v6, q5⟩ := tm_atI I0 h_o0 (k := 17) rfl
    refine tr_getK q5 d_TrustDeskModel_factor_9 f_TrustDeskModel_198_13 ?_
    have := tm_rv q5
    refine mv_iconst (v := 2) d_TrustDeskModel_factor_12 (by decide) ?_
    have := mz_hi v6
    refine mv_icmp_neZ (tgt := 31) (a := v6.toInt) (b := 2) d_TrustDeskModel_factor_13 (by decide) rfl (by decide) (fun b7 => ?_) (fun b7 => ?_)
    · refine mv_aload_n d_TrustDeskModel_factor_31 rfl rfl ?_
      refine tr_getK (k := 17) q5 d_TrustDeskModel_factor_32 f_TrustDeskModel_198_13 ?_
      refine mv_iconst (v := 3) d_TrustDeskModel_factor_35 (by decide) ?_
      have := mz_hi v6
      refine mv_icmp_neZ (tgt := 77) (a := v6.toInt) (b := 3) d_TrustDeskModel_factor_36 (by decide) rfl (by decide) (fun b8 => ?_) (fun b8 => ?_)
      · refine mv_aload_n d_TrustDeskModel_factor_77 rfl rfl ?_
        refine mv_bipush (v := 40) d_TrustDeskModel_factor_78 (by decide) ?_
        obtain ⟨_, b9, -⟩ := I0.1 _ _ h_o0
        refine mv_callV (kc1 := 0) (ks1 := 0) (kc' := 0) (ks' := 0) (As := [.int 40]) (st9 := [.int 40, .ref o0]) d_TrustDeskModel_factor_80 lV_TrustDeskModel_234 b9 rfl (mj_enter (by decide) (Nat.le_of_ble_eq_true rfl) ?_) rfl (Nat.le_of_ble_eq_true rfl) (Nat.le_of_ble_eq_true rfl) (Nat.le_of_ble_eq_true rfl) (hst := rfl) (fun _ _ _ h => h)
        refine mv_aload_n d_TrustDeskModel_isSign_0 rfl rfl ?_
        refine tr_getK (k := 17) q5 d_TrustDeskModel_isSign_1 f_TrustDeskModel_198_13 ?_
        refine mv_iconst (v := 4) d_TrustDeskModel_isSign_4 (by decide) ?_
        have := mz_hi v6
        refine mv_icmp_neZ (tgt := 20) (a := v6.toInt) (b := 4) d_TrustDeskModel_isSign_5 (by decide) rfl (by decide) (fun b10 => ?_) (fun b10 => ?_)
        · refine mv_iconst (v := 0) d_TrustDeskModel_isSign_20 (by decide) ?_
          refine mv_iret d_TrustDeskModel_isSign_21 rfl (by decide) ?_
          refine mv_if_eq_t (tgt := 113) d_TrustDeskModel_factor_83 (by decide) (by decide) ?_
          refine mv_aload_n d_TrustDeskModel_factor_113 rfl rfl ?_
          refine mv_iconst (v := 1) d_TrustDeskModel_factor_114 (by decide) ?_
          obtain ⟨_, b17, -⟩ := I0.1 _ _ h_o0
          refine mv_callV (kc' := 0) (ks' := 0) (As := [.int 1]) (st9 := [.int 1, .ref o0]) d_TrustDeskModel_factor_115 lV_TrustDeskModel_240 b17 rfl (tc_TrustDeskModel_fails_x (d := (d + 5)) (x9 := x9) (o0 := o0) (x1 := 1) h_o0 yR (by decide) I0.start) rfl (Nat.le_of_ble_eq_true rfl) (Nat.le_of_ble_eq_true rfl) (Nat.le_of_ble_eq_true rfl) (hst := rfl) (fun b11r M12 n13 b11 => ?_)
          obtain ⟨T14, J15, rfl, R18, f19⟩ := b11
          have I16 := I0.call J15 (tm_sub (by decide)) (Or.inl rfl)
          have t20 := J15.up h_o0
          have := (rv_c I0 J15 (I0.up h_o0) (k := 16) rfl)
          have := (rv_c I0 J15 (I0.up h_o0) (k := 17) rfl)
          have := (rv_c I0 J15 (I0.up h_o0) (k := 22) rfl)
          have E21 : rE M0 M12 o0 0 0 := yE0.fails (rE_hv I0 J15 (I0.up h_o0) 15 18 (by decide)) (rE_ha I0 J15 (I0.up h_o0) (by decide)) f19 0 0
          have q22 := J15.keep h_o0 (by decide) q5
          exact mv_vret d_TrustDeskModel_factor_118 rfl ⟨_, I16, rfl, R18, E21.vac (by have := R18.1 15 _ _ rfl; have := R18.1 16 _ _ rfl; have := R18.1 19 _ _ rfl; have := E21.f yS; omega) 1 0, (by have := R18.1 15 _ _ rfl; have := R18.1 16 _ _ rfl; have := R18.1 19 _ _ rfl; have := E21.f yS; omega)⟩
        · refine mv_aload_n d_TrustDeskModel_isSign_8 rfl rfl ?_
          obtain ⟨v24, q23⟩ := tm_atI I0 h_o0 (k := 18) rfl
          refine tr_getK q23 d_TrustDeskModel_isSign_9 f_TrustDeskModel_201_13 ?_
          have := yR.f (k := 18) q23 rfl
          have := tm_rv q23
          refine mv_iload_n d_TrustDeskModel_isSign_12 rfl rfl ?_
          have := mz_hi v24
          refine mv_icmp_neZ (tgt := 20) (a := v24.toInt) (b := 40) d_TrustDeskModel_isSign_13 (by decide) rfl (by decide) (fun b25 => ?_) (fun b25 => ?_)
          · refine mv_iconst (v := 0) d_TrustDeskModel_isSign_20 (by decide) ?_
            refine mv_iret d_TrustDeskModel_isSign_21 rfl (by decide) ?_
            refine mv_if_eq_t (tgt := 113) d_TrustDeskModel_factor_83 (by decide) (by decide) ?_
            refine mv_aload_n d_TrustDeskModel_factor_113 rfl rfl ?_
            refine mv_iconst (v := 1) d_TrustDeskModel_factor_114 (by decide) ?_
            obtain ⟨_, b32, -⟩ := I0.1 _ _ h_o0
            refine mv_callV (kc' := 0) (ks' := 0) (As := [.int 1]) (st9 := [.int 1, .ref o0]) d_TrustDeskModel_factor_115 lV_TrustDeskModel_240 b32 rfl (tc_TrustDeskModel_fails_x (d := (d + 5)) (x9 := x9) (o0 := o0) (x1 := 1) h_o0 yR (by decide) I0.start) rfl (Nat.le_of_ble_eq_true rfl) (Nat.le_of_ble_eq_true rfl) (Nat.le_of_ble_eq_true rfl) (hst := rfl) (fun b26r M27 n28 b26 => ?_)
            obtain ⟨T29, J30, rfl, R33, f34⟩ := b26
            have I31 := I0.call J30 (tm_sub (by decide)) (Or.inl rfl)
            have t35 := J30.up h_o0
            have := (rv_c I0 J30 (I0.up h_o0) (k := 16) rfl)
            have := (rv_c I0 J30 (I0.up h_o0) (k := 17) rfl)
            have := (rv_c I0 J30 (I0.up h_o0) (k := 22) rfl)
            have E36 : rE M0 M27 o0 0 0 := yE0.fails (rE_hv I0 J30 (I0.up h_o0) 15 18 (by decide)) (rE_ha I0 J30 (I0.up h_o0) (by decide)) f34 0 0
            have q37 := J30.keep h_o0 (by decide) q5
            have q38 := J30.keep h_o0 (by decide) q23
            exact mv_vret d_TrustDeskModel_factor_118 rfl ⟨_, I31, rfl, R33, E36.vac (by have := R33.1 15 _ _ rfl; have := R33.1 16 _ _ rfl; have := R33.1 19 _ _ rfl; have := E36.f yS; omega) 1 0, (by have := R33.1 15 _ _ rfl; have := R33.1 16 _ _ rfl; have := R33.1 19 _ _ rfl; have := E36.f yS; omega)⟩
          · refine mv_iconst (v := 1) d_TrustDeskModel_isSign_16 (by decide) ?_
            refine mv_goto (tgt := 21) d_TrustDeskModel_isSign_17 (by decide) ?_
            refine mv_iret d_TrustDeskModel_isSign_21 rfl (by decide) ?_
            refine mv_if_eq_f (tgt := 113) d_TrustDeskModel_factor_83 (by decide) (by decide) ?_
            refine mv_aload_n d_TrustDeskModel_factor_86 rfl rfl ?_
            obtain ⟨_, b45, -⟩ := I0.1 _ _ h_o0
            refine mv_callV (kc' := 0) (ks' := 0) (As := []) (st9 := [.ref o0]) d_TrustDeskModel_factor_87 lV_TrustDeskModel_285 b45 rfl (tc_TrustDeskModel_opens_x (d := (d + 3)) (x9 := x9) (o0 := o0) h_o0 yR yE0.1 (by have := yR.1 15 _ _ rfl; have := yR.1 16 _ _ rfl; have := yR.1 19 _ _ rfl; have := yE0.f yS; omega) (by have := yR.1 15 _ _ rfl; have := yR.1 16 _ _ rfl; have := yR.1 19 _ _ rfl; have := yE0.f yS; omega) (by have := yR.1 15 _ _ rfl; have := yR.1 16 _ _ rfl; have := yR.1 19 _ _ rfl; have := yE0.f yS; omega) I0.start) rfl (Nat.le_of_ble_eq_true rfl) (Nat.le_of_ble_eq_true rfl) (Nat.le_of_ble_eq_true rfl) (hst := rfl) (fun b39r M40 n41 b39 => ?_)
            obtain ⟨T42, J43, rfl, R46, f47, f48⟩ := b39
            have I44 := I0.call J43 (tm_sub (by decide)) (Or.inl rfl)
            have t49 := J43.up h_o0
            have E50 : rE M0 M40 o0 0 1 := yE0.trans f47 (by decide) (yR.2 5 _ _ rfl 44).1 (by decide) (by decide)
            have := f47.w
            refine mv_aload_n d_TrustDeskModel_factor_90 rfl rfl ?_
            obtain ⟨_, b57, -⟩ := I44.1 _ _ t49
            refine mv_callV (kc' := 0) (ks' := 0) (As := []) (st9 := [.ref o0]) d_TrustDeskModel_factor_91 lV_TrustDeskModel_288 b57 rfl (tc_TrustDeskModel_sum_q0_x (d := (d + 2)) (x9 := x9) (o0 := o0) t49 R46 E50.1 (by have := R46.1 15 _ _ rfl; have := R46.1 16 _ _ rfl; have := R46.1 19 _ _ rfl; have := E50.f yS; omega) (by have := R46.1 15 _ _ rfl; have := R46.1 16 _ _ rfl; have := R46.1 19 _ _ rfl; have := E50.f yS; omega) I44.start) rfl (Nat.le_of_ble_eq_true rfl) (Nat.le_of_ble_eq_true rfl) (Nat.le_of_ble_eq_true rfl) (hst := rfl) (fun b51r M52 n53 b51 => ?_)
            obtain ⟨T54, J55, rfl, R58, f59, f60⟩ := b51
            have I56 := I44.call J55 (tm_sub (by decide)) (Or.inl rfl)
            have t61 := J55.up t49
            have := (rv_c I44 J55 (I44.up h_o0) (k := 16) rfl)
            have := (rv_c I44 J55 (I44.up h_o0) (k := 17) rfl)
            have := (rv_c I44 J55 (I44.up h_o0) (k := 19) rfl)
            have := (rv_c I44 J55 (I44.up h_o0) (k := 22) rfl)
            have E62 : rE M0 M52 o0 1 1 := E50.trans f59 (by decide) (yR.2 5 _ _ rfl 44).1 (by decide) (by decide)
            have := f59.w
            refine mv_aload_n d_TrustDeskModel_factor_94 rfl rfl ?_
            refine mv_bipush (v := 41) d_TrustDeskModel_factor_95 (by decide) ?_
            obtain ⟨_, b69, -⟩ := I56.1 _ _ t61
            refine mv_callV (kc' := 0) (ks' := 0) (As := [.int 41]) (st9 := [.int 41, .ref o0]) d_TrustDeskModel_factor_97 lV_TrustDeskModel_291 b69 rfl (tc_TrustDeskModel_wantSign_x (d := (d + 3)) (x9 := x9) (o0 := o0) (x1 := 41) t61 R58 E62.1 (by have := R58.1 15 _ _ rfl; have := R58.1 16 _ _ rfl; have := R58.1 19 _ _ rfl; have := E62.f yS; omega) I56.start) rfl (Nat.le_of_ble_eq_true rfl) (Nat.le_of_ble_eq_true rfl) (Nat.le_of_ble_eq_true rfl) (hst := rfl) (fun b63r M64 n65 b63 => ?_)
            obtain ⟨T66, J67, rfl, R70, f71⟩ := b63
            have I68 := I56.call J67 (tm_sub (by decide)) (Or.inl rfl)
            have t72 := J67.up t61
            have := (rv_c I56 J67 (I56.up h_o0) (k := 22) rfl)
            have E73 : rE M0 M64 o0 1 2 := E62.trans f71 (by decide) (yR.2 5 _ _ rfl 44).1 (by decide) (by decide)
            have := f71.w
            refine mv_aload_n d_TrustDeskModel_factor_100 rfl rfl ?_
            refine mv_dup d_TrustDeskModel_factor_101 rfl ?_
            obtain ⟨v75, q74⟩ := tm_atI I68 t72 (k := 22) rfl
            refine tr_getK q74 d_TrustDeskModel_factor_102 f_TrustDeskModel_276_13 ?_
            have := tm_rv q74
            refine mv_iconst (v := 1) d_TrustDeskModel_factor_105 (by decide) ?_
            refine mv_isub d_TrustDeskModel_factor_106 ?_
            have : rv M64 o0 19 = 0 → (v75 - 1 : Int32).toInt = v75.toInt - 1 := fun h9 => mz_sub2 rfl (by decide) (by omega) (by omega)
            refine tr_putR (k := 22) I68 R70 t72 rfl ⟨_, rfl⟩ (fun _ h => by cases h) rfl (fun lo hi h => by cases h) (Or.inl (by decide)) d_TrustDeskModel_factor_107 p_TrustDeskModel_276_13 rfl rfl (fun M76 I77 q78 K79 R80 A81 V82 => ?_)
            have := V82 16 (by decide)
            have := V82 17 (by decide)
            have := V82 19 (by decide)
            have := tm_rv q78
            have E83 : rE M0 M76 o0 1 2 := E73.same (fun k h1 h2 => V82 k (by omega)) (fun k h1 h2 => A81 k (by omega))
            refine mv_goto (tgt := 118) d_TrustDeskModel_factor_110 (by decide) ?_
            exact mv_vret d_TrustDeskModel_factor_118 rfl ⟨_, I77, rfl, R80, E83.less (by decide), (by have := R80.1 15 _ _ rfl; have := R80.1 16 _ _ rfl; have := R80.1 19 _ _ rfl; have := E83.f yS; omega)⟩
      · refine mv_aload_n d_TrustDeskModel_factor_39 rfl rfl ?_
        obtain ⟨_, b90, -⟩ := I0.1 _ _ h_o0
        refine mv_callV (kc' := 0) (ks' := 0) (As := []) (st9 := [.ref o0]) d_TrustDeskModel_factor_40 lV_TrustDeskModel_282 b90 rfl (tc_TrustDeskModel_name_x (d := d) (x9 := x9) (o0 := o0) h_o0 yR I0.start) rfl (Nat.le_of_ble_eq_true rfl) (Nat.le_of_ble_eq_true rfl) (Nat.le_of_ble_eq_true rfl) (hst := rfl) (fun b84r M85 n86 b84 => ?_)
        obtain ⟨T87, J88, v91, rfl, R92, f93⟩ := b84
        have I89 := I0.call J88 (tm_sub (by decide)) (Or.inl rfl)
        have t94 := J88.up h_o0
        have := (rv_c I0 J88 (I0.up h_o0) (k := 16) rfl)
        have := (rv_c I0 J88 (I0.up h_o0) (k := 17) rfl)
        have := (rv_c I0 J88 (I0.up h_o0) (k := 19) rfl)
        have := (rv_c I0 J88 (I0.up h_o0) (k := 22) rfl)
        have E95 : rE M0 M85 o0 0 0 := yE0.same (rE_hv I0 J88 (I0.up h_o0) 15 19 (by decide)) (rE_ha I0 J88 (I0.up h_o0) (by decide))
        have q96 := J88.keep h_o0 (by decide) q2
        have q97 := J88.keep h_o0 (by decide) q5
        refine mv_istore_n (lv' := [(1, .int v91), (0, .ref o0)]) d_TrustDeskModel_factor_43 rfl (by decide) rfl ?_
        refine mv_iload_n d_TrustDeskModel_factor_44 rfl rfl ?_
        refine mv_iconst (v := (-1)) d_TrustDeskModel_factor_45 (by decide) ?_
        have := mz_hi v91
        refine mv_icmp_neZ (tgt := 54) (a := v91.toInt) (b := (-1)) d_TrustDeskModel_factor_46 (by decide) rfl (by decide) (fun b98 => ?_) (fun b98 => ?_)
        · refine mv_aload_n d_TrustDeskModel_factor_54 rfl rfl ?_
          refine mv_sipush (v := 10000) d_TrustDeskModel_factor_55 (by decide) ?_
          refine mv_iload_n d_TrustDeskModel_factor_58 rfl rfl ?_
          refine mv_iadd d_TrustDeskModel_factor_59 ?_
          obtain ⟨_, b105, -⟩ := I89.1 _ _ t94
          have b106 : (10000 + v91 : Int32).toInt = (10000 + v91.toInt) := mz_add2 (by decide) rfl (by have := R92.1 15 _ _ rfl; have := R92.1 16 _ _ rfl; have := R92.1 19 _ _ rfl; have := E95.f yS; omega) (by have := R92.1 15 _ _ rfl; have := R92.1 16 _ _ rfl; have := R92.1 19 _ _ rfl; have := E95.f yS; omega)
          refine mv_callV (kc' := 0) (ks' := 0) (As := [.int (10000 + v91)]) (st9 := [.int (10000 + v91), .ref o0]) d_TrustDeskModel_factor_60 lV_TrustDeskModel_279 b105 rfl (tc_TrustDeskModel_emits_x (d := (d + 4)) (x9 := x9) (o0 := o0) (x1 := (10000 + v91)) t94 R92 (by have := R92.1 15 _ _ rfl; have := R92.1 16 _ _ rfl; have := R92.1 19 _ _ rfl; have := E95.f yS; omega) (by have := R92.1 15 _ _ rfl; have := R92.1 16 _ _ rfl; have := R92.1 19 _ _ rfl; have := E95.f yS; omega) I89.start) rfl (Nat.le_of_ble_eq_true rfl) (Nat.le_of_ble_eq_true rfl) (Nat.le_of_ble_eq_true rfl) (hst := rfl) (fun b99r M100 n101 b99 => ?_)
          obtain ⟨T102, J103, rfl, R107, f108⟩ := b99
          have I104 := I89.call J103 (tm_sub (by decide)) (Or.inl rfl)
          have t109 := J103.up t94
          have := (rv_c I89 J103 (I89.up h_o0) (k := 16) rfl)
          have := (rv_c I89 J103 (I89.up h_o0) (k := 17) rfl)
          have := (rv_c I89 J103 (I89.up h_o0) (k := 19) rfl)
          have := (rv_c I89 J103 (I89.up h_o0) (k := 22) rfl)
          have E110 : rE M0 M100 o0 1 (-1) := E95.emit f108 (rE_hv I89 J103 (I89.up h_o0) 15 19 (by decide)) (yR.2 5 _ _ rfl 44).1 (by decide) (Or.inl ⟨by have := R92.1 15 _ _ rfl; have := R92.1 16 _ _ rfl; have := R92.1 19 _ _ rfl; have := E95.f yS; omega, by decide⟩) (by decide)
          have q111 := J103.keep t94 (by decide) q96
          have q112 := J103.keep t94 (by decide) q97
          refine mv_aload_n d_TrustDeskModel_factor_63 rfl rfl ?_
          obtain ⟨_, b113, -⟩ := I104.1 _ _ t109
          refine mv_callV (kc1 := 0) (ks1 := 0) (kc' := 0) (ks' := 0) (As := []) (st9 := [.ref o0]) d_TrustDeskModel_factor_64 lV_TrustDeskModel_230 b113 rfl (mj_enter (by decide) (Nat.le_of_ble_eq_true rfl) ?_) rfl (Nat.le_of_ble_eq_true rfl) (Nat.le_of_ble_eq_true rfl) (Nat.le_of_ble_eq_true rfl) (hst := rfl) (fun _ _ _ h => h)
          refine mv_aload_n d_TrustDeskModel_isWell_0 rfl rfl ?_
          refine tr_getK (k := 19) q111 d_TrustDeskModel_isWell_1 f_TrustDeskModel_224_13 ?_
          have := mz_hi v3
          refine mv_if_neZ (tgt := 11) (a := v3.toInt) d_TrustDeskModel_isWell_4 (by decide) rfl (fun b114 => absurd b114 (by omega)) (fun b114 => ?_)
          refine mv_iconst (v := 1) d_TrustDeskModel_isWell_7 (by decide) ?_
          refine mv_goto (tgt := 12) d_TrustDeskModel_isWell_8 (by decide) ?_
          refine mv_iret d_TrustDeskModel_isWell_12 rfl (by decide) ?_
          refine mv_if_eq_f (tgt := 74) d_TrustDeskModel_factor_67 (by decide) (by decide) ?_
          refine mv_aload_n d_TrustDeskModel_factor_70 rfl rfl ?_
          obtain ⟨_, b121, -⟩ := I104.1 _ _ t109
          refine mv_callV (kc' := 0) (ks' := 0) (As := []) (st9 := [.ref o0]) d_TrustDeskModel_factor_71 lV_TrustDeskModel_237 b121 rfl (tc_TrustDeskModel_next_x (d := (d + 4)) (x9 := x9) (o0 := o0) t109 R107 I104.start) rfl (Nat.le_of_ble_eq_true rfl) (Nat.le_of_ble_eq_true rfl) (Nat.le_of_ble_eq_true rfl) (hst := rfl) (fun b115r M116 n117 b115 => ?_)
          obtain ⟨T118, J119, rfl, R122, f123, f124⟩ := b115
          have I120 := I104.call J119 (tm_sub (by decide)) (Or.inl rfl)
          have t125 := J119.up t109
          have := (rv_c I104 J119 (I104.up h_o0) (k := 19) rfl)
          have := (rv_c I104 J119 (I104.up h_o0) (k := 22) rfl)
          have h127 : rv M100 o0 16 + 1 ≤ rv M100 o0 15 := (by have := R107.1 15 _ _ rfl; have := R107.1 16 _ _ rfl; have := R107.1 19 _ _ rfl; have := E110.f yS; omega)
          have E126 : rE M0 M116 o0 1 0 := E110.next f123 f124 (rv_c I104 J119 (I104.up h_o0) (k := 19) rfl) (rE_ha I104 J119 (I104.up h_o0) (by decide)) (e := 1) h127 (by decide)
          have q128 := J119.keep t109 (by decide) q111
          refine mv_goto (tgt := 118) d_TrustDeskModel_factor_74 (by decide) ?_
          exact mv_vret d_TrustDeskModel_factor_118 rfl ⟨_, I120, rfl, R122, E126, (by have := R122.1 15 _ _ rfl; have := R122.1 16 _ _ rfl; have := R122.1 19 _ _ rfl; have := E126.f yS; omega)⟩
        · refine mv_aload_n d_TrustDeskModel_factor_49 rfl rfl ?_
          refine mv_iconst (v := 3) d_TrustDeskModel_factor_50 (by decide) ?_
          obtain ⟨_, b135, -⟩ := I89.1 _ _ t94
          refine mv_callV (kc' := 0) (ks' := 0) (As := [.int 3]) (st9 := [.int 3, .ref o0]) d_TrustDeskModel_factor_51 lV_TrustDeskModel_240 b135 rfl (tc_TrustDeskModel_fails_x (d := (d + 5)) (x9 := x9) (o0 := o0) (x1 := 3) t94 R92 (by decide) I89.start) rfl (Nat.le_of_ble_eq_true rfl) (Nat.le_of_ble_eq_true rfl) (Nat.le_of_ble_eq_true rfl) (hst := rfl) (fun b129r M130 n131 b129 => ?_)
          obtain ⟨T132, J133, rfl, R136, f137⟩ := b129
          have I134 := I89.call J133 (tm_sub (by decide)) (Or.inl rfl)
          have t138 := J133.up t94
          have := (rv_c I89 J133 (I89.up h_o0) (k := 16) rfl)
          have := (rv_c I89 J133 (I89.up h_o0) (k := 17) rfl)
          have := (rv_c I89 J133 (I89.up h_o0) (k := 22) rfl)
          have E139 : rE M0 M130 o0 0 0 := E95.fails (rE_hv I89 J133 (I89.up h_o0) 15 18 (by decide)) (rE_ha I89 J133 (I89.up h_o0) (by decide)) f137 0 0
          have q140 := J133.keep t94 (by decide) q97
          refine mv_aload_n d_TrustDeskModel_factor_54 rfl rfl ?_
          refine mv_sipush (v := 10000) d_TrustDeskModel_factor_55 (by decide) ?_
          refine mv_iload_n d_TrustDeskModel_factor_58 rfl rfl ?_
          refine mv_iadd d_TrustDeskModel_factor_59 ?_
          obtain ⟨_, b147, -⟩ := I134.1 _ _ t138
          have b148 : (10000 + v91 : Int32).toInt = (10000 + v91.toInt) := mz_add2 (by decide) rfl (by have := R136.1 15 _ _ rfl; have := R136.1 16 _ _ rfl; have := R136.1 19 _ _ rfl; have := E139.f yS; omega) (by have := R136.1 15 _ _ rfl; have := R136.1 16 _ _ rfl; have := R136.1 19 _ _ rfl; have := E139.f yS; omega)
          refine mv_callV (kc' := 0) (ks' := 0) (As := [.int (10000 + v91)]) (st9 := [.int (10000 + v91), .ref o0]) d_TrustDeskModel_factor_60 lV_TrustDeskModel_279 b147 rfl (tc_TrustDeskModel_emits_x (d := (d + 4)) (x9 := x9) (o0 := o0) (x1 := (10000 + v91)) t138 R136 (by have := R136.1 15 _ _ rfl; have := R136.1 16 _ _ rfl; have := R136.1 19 _ _ rfl; have := E139.f yS; omega) (by have := R136.1 15 _ _ rfl; have := R136.1 16 _ _ rfl; have := R136.1 19 _ _ rfl; have := E139.f yS; omega) I134.start) rfl (Nat.le_of_ble_eq_true rfl) (Nat.le_of_ble_eq_true rfl) (Nat.le_of_ble_eq_true rfl) (hst := rfl) (fun b141r M142 n143 b141 => ?_)
          obtain ⟨T144, J145, rfl, R149, f150⟩ := b141
          have I146 := I134.call J145 (tm_sub (by decide)) (Or.inl rfl)
          have t151 := J145.up t138
          have := (rv_c I134 J145 (I134.up h_o0) (k := 16) rfl)
          have := (rv_c I134 J145 (I134.up h_o0) (k := 17) rfl)
          have := (rv_c I134 J145 (I134.up h_o0) (k := 19) rfl)
          have := (rv_c I134 J145 (I134.up h_o0) (k := 22) rfl)
          have E152 : rE M0 M142 o0 1 (-1) := E139.emit f150 (rE_hv I134 J145 (I134.up h_o0) 15 19 (by decide)) (yR.2 5 _ _ rfl 44).1 (by decide) (Or.inl ⟨by have := R136.1 15 _ _ rfl; have := R136.1 16 _ _ rfl; have := R136.1 19 _ _ rfl; have := E139.f yS; omega, by decide⟩) (by decide)
          have q153 := J145.keep t138 (by decide) q140
          refine mv_aload_n d_TrustDeskModel_factor_63 rfl rfl ?_
          obtain ⟨_, b154, -⟩ := I146.1 _ _ t151
          refine mv_callV (kc1 := 0) (ks1 := 0) (kc' := 0) (ks' := 0) (As := []) (st9 := [.ref o0]) d_TrustDeskModel_factor_64 lV_TrustDeskModel_230 b154 rfl (mj_enter (by decide) (Nat.le_of_ble_eq_true rfl) ?_) rfl (Nat.le_of_ble_eq_true rfl) (Nat.le_of_ble_eq_true rfl) (Nat.le_of_ble_eq_true rfl) (hst := rfl) (fun _ _ _ h => h)
          refine mv_aload_n d_TrustDeskModel_isWell_0 rfl rfl ?_
          obtain ⟨v156, q155⟩ := tm_atI I146 t151 (k := 19) rfl
          refine tr_getK q155 d_TrustDeskModel_isWell_1 f_TrustDeskModel_224_13 ?_
          have := R149.f (k := 19) q155 rfl
          have := tm_rv q155
          have := mz_hi v156
          refine mv_if_neZ (tgt := 11) (a := v156.toInt) d_TrustDeskModel_isWell_4 (by decide) rfl (fun b157 => ?_) (fun b157 => ?_)
          · refine mv_iconst (v := 0) d_TrustDeskModel_isWell_11 (by decide) ?_
            refine mv_iret d_TrustDeskModel_isWell_12 rfl (by decide) ?_
            refine mv_if_eq_t (tgt := 74) d_TrustDeskModel_factor_67 (by decide) (by decide) ?_
            refine mv_goto (tgt := 118) d_TrustDeskModel_factor_74 (by decide) ?_
            exact mv_vret d_TrustDeskModel_factor_118 rfl ⟨_, I146, rfl, R149, E152.vac (by have := R149.1 15 _ _ rfl; have := R149.1 16 _ _ rfl; have := R149.1 19 _ _ rfl; have := E152.f yS; omega) 1 0, (by have := R149.1 15 _ _ rfl; have := R149.1 16 _ _ rfl; have := R149.1 19 _ _ rfl; have := E152.f yS; omega)⟩
          · refine mv_iconst (v := 1) d_TrustDeskModel_isWell_7 (by decide) ?_
            refine mv_goto (tgt := 12) d_TrustDeskModel_isWell_8 (by decide) ?_
            refine mv_iret d_TrustDeskModel_isWell_12 rfl (by decide) ?_
            refine mv_if_eq_f (tgt := 74) d_TrustDeskModel_factor_67 (by decide) (by decide) ?_
            refine mv_aload_n d_TrustDeskModel_factor_70 rfl rfl ?_
            obtain ⟨_, b164, -⟩ := I146.1 _ _ t151
            refine mv_callV (kc' := 0) (ks' := 0) (As := []) (st9 := [.ref o0]) d_TrustDeskModel_factor_71 lV_TrustDeskModel_237 b164 rfl (tc_TrustDeskModel_next_x (d := (d + 4)) (x9 := x9) (o0 := o0) t151 R149 I146.start) rfl (Nat.le_of_ble_eq_true rfl) (Nat.le_of_ble_eq_true rfl) (Nat.le_of_ble_eq_true rfl) (hst := rfl) (fun b158r M159 n160 b158 => ?_)
            obtain ⟨T161, J162, rfl, R165, f166, f167⟩ := b158
            have I163 := I146.call J162 (tm_sub (by decide)) (Or.inl rfl)
            have t168 := J162.up t151
            have := (rv_c I146 J162 (I146.up h_o0) (k := 19) rfl)
            have := (rv_c I146 J162 (I146.up h_o0) (k := 22) rfl)
            have h170 : rv M142 o0 16 + 1 ≤ rv M142 o0 15 := (by have := R149.1 15 _ _ rfl; have := R149.1 16 _ _ rfl; have := R149.1 19 _ _ rfl; have := E152.f yS; omega)
            have E169 : rE M0 M159 o0 1 0 := E152.next f166 f167 (rv_c I146 J162 (I146.up h_o0) (k := 19) rfl) (rE_ha I146 J162 (I146.up h_o0) (by decide)) (e := 1) h170 (by decide)
            have q171 := J162.keep t151 (by decide) q155
            refine mv_goto (tgt := 118) d_TrustDeskModel_factor_74 (by decide) ?_
            exact mv_vret d_TrustDeskModel_factor_118 rfl ⟨_, I163, rfl, R165, E169, (by have := R165.1 15 _ _ rfl; have := R165.1 16 _ _ rfl; have := R165.1 19 _ _ rfl; have := E169.f yS; omega)⟩
    · refine mv_aload_n d_TrustDeskModel_factor_16 rfl rfl ?_
      refine mv_aload_n d_TrustDeskModel_factor_17 rfl rfl ?_
      obtain ⟨v173, q172⟩ := tm_atI I0 h_o0 (k := 18) rfl
      refine tr_getK q172 d_TrustDeskModel_factor_18 f_TrustDeskModel_201_13 ?_
      have := yR.f (k := 18) q172 rfl
      have := tm_rv q172
      obtain ⟨_, b180, -⟩ := I0.1 _ _ h_o0
      refine mv_callV (kc' := 0) (ks' := 0) (As := [.int v173]) (st9 := [.int v173, .ref o0]) d_TrustDeskModel_factor_21 lV_TrustDeskModel_279 b180 rfl (tc_TrustDeskModel_emits_x (d := (d + 4)) (x9 := x9) (o0 := o0) (x1 := v173) h_o0 yR (by have := yR.1 15 _ _ rfl; have := yR.1 16 _ _ rfl; have := yR.1 19 _ _ rfl; have := yE0.f yS; omega) (by have := yR.1 15 _ _ rfl; have := yR.1 16 _ _ rfl; have := yR.1 19 _ _ rfl; have := yE0.f yS; omega) I0.start) rfl (Nat.le_of_ble_eq_true rfl) (Nat.le_of_ble_eq_true rfl) (Nat.le_of_ble_eq_true rfl) (hst := rfl) (fun b174r M175 n176 b174 => ?_)
      obtain ⟨T177, J178, rfl, R181, f182⟩ := b174
      have I179 := I0.call J178 (tm_sub (by decide)) (Or.inl rfl)
      have t183 := J178.up h_o0
      have := (rv_c I0 J178 (I0.up h_o0) (k := 16) rfl)
      have := (rv_c I0 J178 (I0.up h_o0) (k := 17) rfl)
      have := (rv_c I0 J178 (I0.up h_o0) (k := 19) rfl)
      have := (rv_c I0 J178 (I0.up h_o0) (k := 22) rfl)
      have E184 : rE M0 M175 o0 1 (-1) := yE0.emit f182 (rE_hv I0 J178 (I0.up h_o0) 15 19 (by decide)) (yR.2 5 _ _ rfl 44).1 (by decide) (Or.inl ⟨by have := yR.1 15 _ _ rfl; have := yR.1 16 _ _ rfl; have := yR.1 19 _ _ rfl; have := yE0.f yS; omega, by decide⟩) (by decide)
      have q185 := J178.keep h_o0 (by decide) q2
      have q186 := J178.keep h_o0 (by decide) q5
      have q187 := J178.keep h_o0 (by decide) q172
      refine mv_aload_n d_TrustDeskModel_factor_24 rfl rfl ?_
      obtain ⟨_, b194, -⟩ := I179.1 _ _ t183
      refine mv_callV (kc' := 0) (ks' := 0) (As := []) (st9 := [.ref o0]) d_TrustDeskModel_factor_25 lV_TrustDeskModel_237 b194 rfl (tc_TrustDeskModel_next_x (d := (d + 4)) (x9 := x9) (o0 := o0) t183 R181 I179.start) rfl (Nat.le_of_ble_eq_true rfl) (Nat.le_of_ble_eq_true rfl) (Nat.le_of_ble_eq_true rfl) (hst := rfl) (fun b188r M189 n190 b188 => ?_)
      obtain ⟨T191, J192, rfl, R195, f196, f197⟩ := b188
      have I193 := I179.call J192 (tm_sub (by decide)) (Or.inl rfl)
      have t198 := J192.up t183
      have := (rv_c I179 J192 (I179.up h_o0) (k := 19) rfl)
      have := (rv_c I179 J192 (I179.up h_o0) (k := 22) rfl)
      have h200 : rv M175 o0 16 + 1 ≤ rv M175 o0 15 := (by have := R181.1 15 _ _ rfl; have := R181.1 16 _ _ rfl; have := R181.1 19 _ _ rfl; have := E184.f yS; omega)
      have E199 : rE M0 M189 o0 1 0 := E184.next f196 f197 (rv_c I179 J192 (I179.up h_o0) (k := 19) rfl) (rE_ha I179 J192 (I179.up h_o0) (by decide)) (e := 1) h200 (by decide)
      have q201 := J192.keep t183 (by decide) q185
      refine mv_goto (tgt := 118) d_TrustDeskModel_factor_28 (by decide) ?_
      exact mv_vret d_TrustDeskModel_factor_118 rfl ⟨_, I193, rfl, R195, E199, (by have := R195.1 15 _ _ rfl; have := R195.1 16 _ _ rfl; have := R195.1 19 _ _ rfl; have := E199.f yS; omega)⟩
theorem d_TrustDeskModel_product_11 : decode kY_TrustDeskModel_product.2.1 11 = .ok (.aload_n 0, 1) := by decide +kernel
theorem d_TrustDeskModel_product_12 : decode kY_TrustDeskModel_product.2.1 12 = .ok (.bipush 42, 2) := by decide +kernel
theorem d_TrustDeskModel_product_14 : decode kY_TrustDeskModel_product.2.1 14 = .ok (.invokevirtual 234, 3) := by decide +kernel
theorem d_TrustDeskModel_product_17 : decode kY_TrustDeskModel_product.2.1 17 = .ok (.ifCond .eq 20, 3) := by decide +kernel
theorem d_TrustDeskModel_product_20 : decode kY_TrustDeskModel_product.2.1 20 = .ok (.aload_n 0, 1) := by decide +kernel
theorem d_TrustDeskModel_product_21 : decode kY_TrustDeskModel_product.2.1 21 = .ok (.invokevirtual 237, 3) := by decide +kernel
theorem d_TrustDeskModel_product_24 : decode kY_TrustDeskModel_product.2.1 24 = .ok (.aload_n 0, 1) := by decide +kernel
theorem d_TrustDeskModel_product_25 : decode kY_TrustDeskModel_product.2.1 25 = .ok (.invokevirtual 294, 3) := by decide +kernel
theorem d_TrustDeskModel_product_28 : decode kY_TrustDeskModel_product.2.1 28 = .ok (.aload_n 0, 1) := by decide +kernel
theorem d_TrustDeskModel_product_29 : decode kY_TrustDeskModel_product.2.1 29 = .ok (.bipush (-3), 2) := by decide +kernel
theorem d_TrustDeskModel_product_31 : decode kY_TrustDeskModel_product.2.1 31 = .ok (.invokevirtual 279, 3) := by decide +kernel
theorem d_TrustDeskModel_product_34 : decode kY_TrustDeskModel_product.2.1 34 = .ok (.goto (-30), 3) := by decide +kernel
def w_TrustDeskModel_product_q1_x : List Nat := [1315, 1316, 1317, 1318, 1319, 1320, 1322, 20004, 20005]
theorem tc_TrustDeskModel_product_q1_x {g : mj_G} {l : Launch} {d : Nat} {T0 : tm_H} {M0 : mj_M} {n0 x9 : Nat} {o0 : Nat} (h_o0 : T0 o0 = some (0, 13, 0)) (yR : rI M0 o0) (yT : rT M0 o0) (yS : rv M0 o0 19 = 0 → ra M0 o0 5 44 ≤ rv M0 o0 16) (yL : rv M0 o0 19 ≠ 0 ∨ (4 ≤ rv M0 o0 22 ∧ rv M0 o0 22 ≤ 4)) (I0 : tm_I tm_FT (tm_in w_TrustDeskModel_product_q1_x) x9 T0 M0 n0 T0 M0 n0) : mj_Met g l kY_TrustDeskModel_product (d + 7) [.ref o0] M0 n0 0 0 (tm_Q tm_FT (tm_in w_TrustDeskModel_product_q1_x) x9 T0 M0 n0 (fun r _ M => r = none ∧ rI M o0 ∧ (rE M0 M o0 1 0) ∧ (rv M o0 19 = 0 → rv M o0 22 = rv M0 o0 22))) := by
  refine mj_enter (by decide) (Nat.le_of_ble_eq_true rfl) ?_
  have yE0 := rE.rf yT
  refine mv_aload_n d_TrustDeskModel_product_0 rfl rfl ?_
  obtain ⟨_, b7, -⟩ := I0.1 _ _ h_o0
  refine mv_callV (kc' := 0) (ks' := 0) (As := []) (st9 := [.ref o0]) d_TrustDeskModel_product_1 lV_TrustDeskModel_294 b7 rfl (tc_TrustDeskModel_factor_q1_x (d := d) (x9 := x9) (o0 := o0) h_o0 yR yE0.1 (by have := yR.1 15 _ _ rfl; have := yR.1 16 _ _ rfl; have := yR.1 19 _ _ rfl; have := yE0.f yS; omega) (by have := yR.1 15 _ _ rfl; have := yR.1 16 _ _ rfl; have := yR.1 19 _ _ rfl; have := yE0.f yS; omega) I0.start) rfl (Nat.le_of_ble_eq_true rfl) (Nat.le_of_ble_eq_true rfl) (Nat.le_of_ble_eq_true rfl) (hst := rfl) (fun b1r M2 n3 b1 => ?_)
  obtain ⟨T4, J5, rfl, R8, f9, f10⟩ := b1
  have I6 := I0.call J5 (tm_sub (by decide)) (Or.inl rfl)
  have t11 := J5.up h_o0
  have E12 : rE M0 M2 o0 1 0 := yE0.trans f9 (by decide) (yR.2 5 _ _ rfl 44).1 (by decide) (by decide)
  have := f9.w
  have L4_13 : ∀ (k : Nat) (T_13 : tm_H) (M_13 : mj_M) (n_13 : Nat), tm_I tm_FT (tm_in w_TrustDeskModel_product_q1_x) x9 T0 M0 n0 T_13 M_13 n_13 → T_13 o0 = some (0, 13, 0) → (rv M_13 o0 19 = 0 → rv M_13 o0 22 = rv M0 o0 22) → (rI M_13 o0) → (rE M0 M_13 o0 1 0) → 5 * (401 - rv M_13 o0 16) - rv M_13 o0 19 < (k : Int) → mj_V g l kY_TrustDeskModel_product (d + 7) 4 [(0, .ref o0)] [] M_13 n_13 0 0 (tm_Q tm_FT (tm_in w_TrustDeskModel_product_q1_x) x9 T0 M0 n0 (fun r _ M => r = none ∧ rI M o0 ∧ (rE M0 M o0 1 0) ∧ (rv M o0 19 = 0 → rv M o0 22 = rv M0 o0 22))) := by
    intro k13
    induction k13 with
    | zero =>
      intro T_13 M_13 n_13 I_13 h_q0_13 iv0_13 kKR_13 kKE_13 hk13
      have := kKR_13.1 15 _ _ rfl
      have := kKR_13.1 16 _ _ rfl
      have := kKR_13.1 19 _ _ rfl
      exfalso; omega
    | succ k13 ih13 =>
      intro T_13 M_13 n_13 I_13 h_q0_13 iv0_13 kKR_13 kKE_13 hk13
      have := kKE_13.f yS
      refine mv_aload_n d_TrustDeskModel_product_4 rfl rfl ?_
      obtain ⟨_, b14, -⟩ := I_13.1 _ _ h_q0_13
      refine mv_callV (kc1 := 0) (ks1 := 0) (kc' := 0) (ks' := 0) (As := []) (st9 := [.ref o0]) d_TrustDeskModel_product_5 lV_TrustDeskModel_230 b14 rfl (mj_enter (by decide) (Nat.le_of_ble_eq_true rfl) ?_) rfl (Nat.le_of_ble_eq_true rfl) (Nat.le_of_ble_eq_true rfl) (Nat.le_of_ble_eq_true rfl) (hst := rfl) (fun _ _ _ h => h)
      refine mv_aload_n d_TrustDeskModel_isWell_0 rfl rfl ?_
      obtain ⟨v16, q15⟩ := tm_atI I_13 h_q0_13 (k := 19) rfl
      refine tr_getK q15 d_TrustDeskModel_isWell_1 f_TrustDeskModel_224_13 ?_
      have := kKR_13.f (k := 19) q15 rfl
      have := tm_rv q15
      have := mz_hi v16
      refine mv_if_neZ (tgt := 11) (a := v16.toInt) d_TrustDeskModel_isWell_4 (by decide) rfl (fun b17 => ?_) (fun b17 => ?_)
      · refine mv_iconst (v := 0) d_TrustDeskModel_isWell_11 (by decide) ?_
        refine mv_iret d_TrustDeskModel_isWell_12 rfl (by decide) ?_
        refine mv_if_eq_t (tgt := 37) d_TrustDeskModel_product_8 (by decide) (by decide) ?_
        exact mv_vret d_TrustDeskModel_product_37 rfl ⟨_, I_13, rfl, kKR_13, kKE_13, (by have := kKR_13.1 15 _ _ rfl; have := kKR_13.1 16 _ _ rfl; have := kKR_13.1 19 _ _ rfl; have := kKE_13.f yS; omega)⟩
      · refine mv_iconst (v := 1) d_TrustDeskModel_isWell_7 (by decide) ?_
        refine mv_goto (tgt := 12) d_TrustDeskModel_isWell_8 (by decide) ?_
        refine mv_iret d_TrustDeskModel_isWell_12 rfl (by decide) ?_
        refine mv_if_eq_f (tgt := 37) d_TrustDeskModel_product_8 (by decide) (by decide) ?_
        refine mv_aload_n d_TrustDeskModel_product_11 rfl rfl ?_
        refine mv_bipush (v := 42) d_TrustDeskModel_product_12 (by decide) ?_
        obtain ⟨_, b18, -⟩ := I_13.1 _ _ h_q0_13
        refine mv_callV (kc1 := 0) (ks1 := 0) (kc' := 0) (ks' := 0) (As := [.int 42]) (st9 := [.int 42, .ref o0]) d_TrustDeskModel_product_14 lV_TrustDeskModel_234 b18 rfl (mj_enter (by decide) (Nat.le_of_ble_eq_true rfl) ?_) rfl (Nat.le_of_ble_eq_true rfl) (Nat.le_of_ble_eq_true rfl) (Nat.le_of_ble_eq_true rfl) (hst := rfl) (fun _ _ _ h => h)
        refine mv_aload_n d_TrustDeskModel_isSign_0 rfl rfl ?_
        obtain ⟨v20, q19⟩ := tm_atI I_13 h_q0_13 (k := 17) rfl
        refine tr_getK q19 d_TrustDeskModel_isSign_1 f_TrustDeskModel_198_13 ?_
        have := tm_rv q19
        refine mv_iconst (v := 4) d_TrustDeskModel_isSign_4 (by decide) ?_
        have := mz_hi v20
        refine mv_icmp_neZ (tgt := 20) (a := v20.toInt) (b := 4) d_TrustDeskModel_isSign_5 (by decide) rfl (by decide) (fun b21 => ?_) (fun b21 => ?_)
        · refine mv_iconst (v := 0) d_TrustDeskModel_isSign_20 (by decide) ?_
          refine mv_iret d_TrustDeskModel_isSign_21 rfl (by decide) ?_
          refine mv_if_eq_t (tgt := 37) d_TrustDeskModel_product_17 (by decide) (by decide) ?_
          exact mv_vret d_TrustDeskModel_product_37 rfl ⟨_, I_13, rfl, kKR_13, kKE_13, (by have := kKR_13.1 15 _ _ rfl; have := kKR_13.1 16 _ _ rfl; have := kKR_13.1 19 _ _ rfl; have := kKE_13.f yS; omega)⟩
        · refine mv_aload_n d_TrustDeskModel_isSign_8 rfl rfl ?_
          obtain ⟨v23, q22⟩ := tm_atI I_13 h_q0_13 (k := 18) rfl
          refine tr_getK q22 d_TrustDeskModel_isSign_9 f_TrustDeskModel_201_13 ?_
          have := kKR_13.f (k := 18) q22 rfl
          have := tm_rv q22
          refine mv_iload_n d_TrustDeskModel_isSign_12 rfl rfl ?_
          have := mz_hi v23
          refine mv_icmp_neZ (tgt := 20) (a := v23.toInt) (b := 42) d_TrustDeskModel_isSign_13 (by decide) rfl (by decide) (fun b24 => ?_) (fun b24 => ?_)
          · refine mv_iconst (v := 0) d_TrustDeskModel_isSign_20 (by decide) ?_
            refine mv_iret d_TrustDeskModel_isSign_21 rfl (by decide) ?_
            refine mv_if_eq_t (tgt := 37) d_TrustDeskModel_product_17 (by decide) (by decide) ?_
            exact mv_vret d_TrustDeskModel_product_37 rfl ⟨_, I_13, rfl, kKR_13, kKE_13, (by have := kKR_13.1 15 _ _ rfl; have := kKR_13.1 16 _ _ rfl; have := kKR_13.1 19 _ _ rfl; have := kKE_13.f yS; omega)⟩
          · refine mv_iconst (v := 1) d_TrustDeskModel_isSign_16 (by decide) ?_
            refine mv_goto (tgt := 21) d_TrustDeskModel_isSign_17 (by decide) ?_
            refine mv_iret d_TrustDeskModel_isSign_21 rfl (by decide) ?_
            refine mv_if_eq_f (tgt := 37) d_TrustDeskModel_product_17 (by decide) (by decide) ?_
            refine mv_aload_n d_TrustDeskModel_product_20 rfl rfl ?_
            obtain ⟨_, b31, -⟩ := I_13.1 _ _ h_q0_13
            refine mv_callV (kc' := 0) (ks' := 0) (As := []) (st9 := [.ref o0]) d_TrustDeskModel_product_21 lV_TrustDeskModel_237 b31 rfl (tc_TrustDeskModel_next_x (d := (d + 5)) (x9 := x9) (o0 := o0) h_q0_13 kKR_13 I_13.start) rfl (Nat.le_of_ble_eq_true rfl) (Nat.le_of_ble_eq_true rfl) (Nat.le_of_ble_eq_true rfl) (hst := rfl) (fun b25r M26 n27 b25 => ?_)
            obtain ⟨T28, J29, rfl, R32, f33, f34⟩ := b25
            have I30 := I_13.call J29 (tm_sub (by decide)) (Or.inl rfl)
            have t35 := J29.up h_q0_13
            have := (rv_c I_13 J29 (I_13.up h_o0) (k := 19) rfl)
            have := (rv_c I_13 J29 (I_13.up h_o0) (k := 22) rfl)
            have h37 : rv M_13 o0 16 + 1 ≤ rv M_13 o0 15 := (by have := kKR_13.1 15 _ _ rfl; have := kKR_13.1 16 _ _ rfl; have := kKR_13.1 19 _ _ rfl; have := kKE_13.f yS; omega)
            have E36 : rE M0 M26 o0 1 1 := kKE_13.next f33 f34 (rv_c I_13 J29 (I_13.up h_o0) (k := 19) rfl) (rE_ha I_13 J29 (I_13.up h_o0) (by decide)) (e := 1) h37 (by decide)
            have q38 := J29.keep h_q0_13 (by decide) q15
            refine mv_aload_n d_TrustDeskModel_product_24 rfl rfl ?_
            obtain ⟨_, b45, -⟩ := I30.1 _ _ t35
            refine mv_callV (kc' := 0) (ks' := 0) (As := []) (st9 := [.ref o0]) d_TrustDeskModel_product_25 lV_TrustDeskModel_294 b45 rfl (tc_TrustDeskModel_factor_q1_x (d := d) (x9 := x9) (o0 := o0) t35 R32 E36.1 (by have := R32.1 15 _ _ rfl; have := R32.1 16 _ _ rfl; have := R32.1 19 _ _ rfl; have := E36.f yS; omega) (by have := R32.1 15 _ _ rfl; have := R32.1 16 _ _ rfl; have := R32.1 19 _ _ rfl; have := E36.f yS; omega) I30.start) rfl (Nat.le_of_ble_eq_true rfl) (Nat.le_of_ble_eq_true rfl) (Nat.le_of_ble_eq_true rfl) (hst := rfl) (fun b39r M40 n41 b39 => ?_)
            obtain ⟨T42, J43, rfl, R46, f47, f48⟩ := b39
            have I44 := I30.call J43 (tm_sub (by decide)) (Or.inl rfl)
            have t49 := J43.up t35
            have E50 : rE M0 M40 o0 2 1 := E36.trans f47 (by decide) (yR.2 5 _ _ rfl 44).1 (by decide) (by decide)
            have := f47.w
            refine mv_aload_n d_TrustDeskModel_product_28 rfl rfl ?_
            refine mv_bipush (v := (-3)) d_TrustDeskModel_product_29 (by decide) ?_
            obtain ⟨_, b57, -⟩ := I44.1 _ _ t49
            refine mv_callV (kc' := 0) (ks' := 0) (As := [.int (-3)]) (st9 := [.int (-3), .ref o0]) d_TrustDeskModel_product_31 lV_TrustDeskModel_279 b57 rfl (tc_TrustDeskModel_emits_x (d := (d + 5)) (x9 := x9) (o0 := o0) (x1 := (-3)) t49 R46 (by have := R46.1 15 _ _ rfl; have := R46.1 16 _ _ rfl; have := R46.1 19 _ _ rfl; have := E50.f yS; omega) (by decide) I44.start) rfl (Nat.le_of_ble_eq_true rfl) (Nat.le_of_ble_eq_true rfl) (Nat.le_of_ble_eq_true rfl) (hst := rfl) (fun b51r M52 n53 b51 => ?_)
            obtain ⟨T54, J55, rfl, R58, f59⟩ := b51
            have I56 := I44.call J55 (tm_sub (by decide)) (Or.inl rfl)
            have t60 := J55.up t49
            have := (rv_c I44 J55 (I44.up h_o0) (k := 16) rfl)
            have := (rv_c I44 J55 (I44.up h_o0) (k := 17) rfl)
            have := (rv_c I44 J55 (I44.up h_o0) (k := 19) rfl)
            have := (rv_c I44 J55 (I44.up h_o0) (k := 22) rfl)
            have E61 : rE M0 M52 o0 1 0 := E50.emit f59 (rE_hv I44 J55 (I44.up h_o0) 15 19 (by decide)) (yR.2 5 _ _ rfl 44).1 (by decide) (Or.inr (Or.inr ⟨by decide, by decide, by decide, by decide⟩)) (by decide)
            refine mv_goto (tgt := 4) d_TrustDeskModel_product_34 (by decide) ?_
            exact (ih13 T54 M52 n53 I56 t60 (by have := R58.1 15 _ _ rfl; have := R58.1 16 _ _ rfl; have := R58.1 19 _ _ rfl; have := E61.f yS; first | omega | decide) R58 E61 (by have := R58.1 15 _ _ rfl; have := R58.1 16 _ _ rfl; have := R58.1 19 _ _ rfl; have := E61.f yS; omega))
  exact mv_less (Nat.zero_le _) (Nat.zero_le _) (L4_13 4294967296 T4 M2 n3 I6 t11 (by have := R8.1 15 _ _ rfl; have := R8.1 16 _ _ rfl; have := R8.1 19 _ _ rfl; have := E12.f yS; first | omega | decide) R8 E12 (by have := R8.1 15 _ _ rfl; have := R8.1 16 _ _ rfl; have := R8.1 19 _ _ rfl; have := E12.f yS; omega))
theorem d_TrustDeskModel_sum_11 : decode kY_TrustDeskModel_sum.2.1 11 = .ok (.aload_n 0, 1) := by decide +kernel
theorem d_TrustDeskModel_sum_12 : decode kY_TrustDeskModel_sum.2.1 12 = .ok (.bipush 43, 2) := by decide +kernel
theorem d_TrustDeskModel_sum_14 : decode kY_TrustDeskModel_sum.2.1 14 = .ok (.invokevirtual 234, 3) := by decide +kernel
theorem d_TrustDeskModel_sum_17 : decode kY_TrustDeskModel_sum.2.1 17 = .ok (.ifCond .ne 12, 3) := by decide +kernel
theorem d_TrustDeskModel_sum_20 : decode kY_TrustDeskModel_sum.2.1 20 = .ok (.aload_n 0, 1) := by decide +kernel
theorem d_TrustDeskModel_sum_21 : decode kY_TrustDeskModel_sum.2.1 21 = .ok (.bipush 45, 2) := by decide +kernel
theorem d_TrustDeskModel_sum_23 : decode kY_TrustDeskModel_sum.2.1 23 = .ok (.invokevirtual 234, 3) := by decide +kernel
theorem d_TrustDeskModel_sum_26 : decode kY_TrustDeskModel_sum.2.1 26 = .ok (.ifCond .eq 35, 3) := by decide +kernel
theorem d_TrustDeskModel_sum_29 : decode kY_TrustDeskModel_sum.2.1 29 = .ok (.aload_n 0, 1) := by decide +kernel
theorem d_TrustDeskModel_sum_30 : decode kY_TrustDeskModel_sum.2.1 30 = .ok (.bipush 43, 2) := by decide +kernel
theorem d_TrustDeskModel_sum_32 : decode kY_TrustDeskModel_sum.2.1 32 = .ok (.invokevirtual 234, 3) := by decide +kernel
theorem d_TrustDeskModel_sum_35 : decode kY_TrustDeskModel_sum.2.1 35 = .ok (.istore_n 1, 1) := by decide +kernel
theorem d_TrustDeskModel_sum_36 : decode kY_TrustDeskModel_sum.2.1 36 = .ok (.aload_n 0, 1) := by decide +kernel
theorem d_TrustDeskModel_sum_37 : decode kY_TrustDeskModel_sum.2.1 37 = .ok (.invokevirtual 237, 3) := by decide +kernel
theorem d_TrustDeskModel_sum_40 : decode kY_TrustDeskModel_sum.2.1 40 = .ok (.aload_n 0, 1) := by decide +kernel
theorem d_TrustDeskModel_sum_41 : decode kY_TrustDeskModel_sum.2.1 41 = .ok (.invokevirtual 297, 3) := by decide +kernel
theorem d_TrustDeskModel_sum_44 : decode kY_TrustDeskModel_sum.2.1 44 = .ok (.aload_n 0, 1) := by decide +kernel
theorem d_TrustDeskModel_sum_45 : decode kY_TrustDeskModel_sum.2.1 45 = .ok (.iload_n 1, 1) := by decide +kernel
theorem d_TrustDeskModel_sum_46 : decode kY_TrustDeskModel_sum.2.1 46 = .ok (.ifCond .eq 7, 3) := by decide +kernel
theorem d_TrustDeskModel_sum_53 : decode kY_TrustDeskModel_sum.2.1 53 = .ok (.bipush (-2), 2) := by decide +kernel
theorem d_TrustDeskModel_sum_55 : decode kY_TrustDeskModel_sum.2.1 55 = .ok (.invokevirtual 279, 3) := by decide +kernel
theorem d_TrustDeskModel_sum_58 : decode kY_TrustDeskModel_sum.2.1 58 = .ok (.goto (-54), 3) := by decide +kernel
theorem d_TrustDeskModel_sum_49 : decode kY_TrustDeskModel_sum.2.1 49 = .ok (.iconst (-1), 1) := by decide +kernel
theorem d_TrustDeskModel_sum_50 : decode kY_TrustDeskModel_sum.2.1 50 = .ok (.goto 5, 3) := by decide +kernel
def w_TrustDeskModel_sum_q1_x : List Nat := [1315, 1316, 1317, 1318, 1319, 1320, 1322, 20004, 20005]
theorem tc_TrustDeskModel_sum_q1_x {g : mj_G} {l : Launch} {d : Nat} {T0 : tm_H} {M0 : mj_M} {n0 x9 : Nat} {o0 : Nat} (h_o0 : T0 o0 = some (0, 13, 0)) (yR : rI M0 o0) (yT : rT M0 o0) (yS : rv M0 o0 19 = 0 → ra M0 o0 5 44 ≤ rv M0 o0 16) (yL : rv M0 o0 19 ≠ 0 ∨ (4 ≤ rv M0 o0 22 ∧ rv M0 o0 22 ≤ 4)) (I0 : tm_I tm_FT (tm_in w_TrustDeskModel_sum_q1_x) x9 T0 M0 n0 T0 M0 n0) : mj_Met g l kY_TrustDeskModel_sum (d + 8) [.ref o0] M0 n0 0 0 (tm_Q tm_FT (tm_in w_TrustDeskModel_sum_q1_x) x9 T0 M0 n0 (fun r _ M => r = none ∧ rI M o0 ∧ (rE M0 M o0 1 0) ∧ (rv M o0 19 = 0 → rv M o0 22 = rv M0 o0 22))) := by
  refine mj_enter (by decide) (Nat.le_of_ble_eq_true rfl) ?_
  have yE0 := rE.rf yT
  refine mv_aload_n d_TrustDeskModel_sum_0 rfl rfl ?_
  obtain ⟨_, b7, -⟩ := I0.1 _ _ h_o0
  refine mv_callV (kc' := 0) (ks' := 0) (As := []) (st9 := [.ref o0]) d_TrustDeskModel_sum_1 lV_TrustDeskModel_297 b7 rfl (tc_TrustDeskModel_product_q1_x (d := d) (x9 := x9) (o0 := o0) h_o0 yR yE0.1 (by have := yR.1 15 _ _ rfl; have := yR.1 16 _ _ rfl; have := yR.1 19 _ _ rfl; have := yE0.f yS; omega) (by have := yR.1 15 _ _ rfl; have := yR.1 16 _ _ rfl; have := yR.1 19 _ _ rfl; have := yE0.f yS; omega) I0.start) rfl (Nat.le_of_ble_eq_true rfl) (Nat.le_of_ble_eq_true rfl) (Nat.le_of_ble_eq_true rfl) (hst := rfl) (fun b1r M2 n3 b1 => ?_)
  obtain ⟨T4, J5, rfl, R8, f9, f10⟩ := b1
  have I6 := I0.call J5 (tm_sub (by decide)) (Or.inl rfl)
  have t11 := J5.up h_o0
  have E12 : rE M0 M2 o0 1 0 := yE0.trans f9 (by decide) (yR.2 5 _ _ rfl 44).1 (by decide) (by decide)
  have := f9.w
  have L4_13 : ∀ (k : Nat) (T_13 : tm_H) (M_13 : mj_M) (n_13 : Nat), tm_I tm_FT (tm_in w_TrustDeskModel_sum_q1_x) x9 T0 M0 n0 T_13 M_13 n_13 → T_13 o0 = some (0, 13, 0) → (rv M_13 o0 19 = 0 → rv M_13 o0 22 = rv M0 o0 22) → (rI M_13 o0) → (rE M0 M_13 o0 1 0) → 5 * (401 - rv M_13 o0 16) - rv M_13 o0 19 < (k : Int) → mj_V g l kY_TrustDeskModel_sum (d + 8) 4 [(0, .ref o0)] [] M_13 n_13 0 0 (tm_Q tm_FT (tm_in w_TrustDeskModel_sum_q1_x) x9 T0 M0 n0 (fun r _ M => r = none ∧ rI M o0 ∧ (rE M0 M o0 1 0) ∧ (rv M o0 19 = 0 → rv M o0 22 = rv M0 o0 22))) := by
    intro k13
    induction k13 with
    | zero =>
      intro T_13 M_13 n_13 I_13 h_q0_13 iv0_13 kKR_13 kKE_13 hk13
      have := kKR_13.1 15 _ _ rfl
      have := kKR_13.1 16 _ _ rfl
      have := kKR_13.1 19 _ _ rfl
      exfalso; omega
    | succ k13 ih13 =>
      intro T_13 M_13 n_13 I_13 h_q0_13 iv0_13 kKR_13 kKE_13 hk13
      have := kKE_13.f yS
      refine mv_aload_n d_TrustDeskModel_sum_4 rfl rfl ?_
      obtain ⟨_, b14, -⟩ := I_13.1 _ _ h_q0_13
      refine mv_callV (kc1 := 0) (ks1 := 0) (kc' := 0) (ks' := 0) (As := []) (st9 := [.ref o0]) d_TrustDeskModel_sum_5 lV_TrustDeskModel_230 b14 rfl (mj_enter (by decide) (Nat.le_of_ble_eq_true rfl) ?_) rfl (Nat.le_of_ble_eq_true rfl) (Nat.le_of_ble_eq_true rfl) (Nat.le_of_ble_eq_true rfl) (hst := rfl) (fun _ _ _ h => h)
      refine mv_aload_n d_TrustDeskModel_isWell_0 rfl rfl ?_
      obtain ⟨v16, q15⟩ := tm_atI I_13 h_q0_13 (k := 19) rfl
      refine tr_getK q15 d_TrustDeskModel_isWell_1 f_TrustDeskModel_224_13 ?_
      have := kKR_13.f (k := 19) q15 rfl
      have := tm_rv q15
      have := mz_hi v16
      refine mv_if_neZ (tgt := 11) (a := v16.toInt) d_TrustDeskModel_isWell_4 (by decide) rfl (fun b17 => ?_) (fun b17 => ?_)
      · refine mv_iconst (v := 0) d_TrustDeskModel_isWell_11 (by decide) ?_
        refine mv_iret d_TrustDeskModel_isWell_12 rfl (by decide) ?_
        refine mv_if_eq_t (tgt := 61) d_TrustDeskModel_sum_8 (by decide) (by decide) ?_
        exact mv_vret d_TrustDeskModel_sum_61 rfl ⟨_, I_13, rfl, kKR_13, kKE_13, (by have := kKR_13.1 15 _ _ rfl; have := kKR_13.1 16 _ _ rfl; have := kKR_13.1 19 _ _ rfl; have := kKE_13.f yS; omega)⟩
      · refine mv_iconst (v := 1) d_TrustDeskModel_isWell_7 (by decide) ?_
        refine mv_goto (tgt := 12) d_TrustDeskModel_isWell_8 (by decide) ?_
        refine mv_iret d_TrustDeskModel_isWell_12 rfl (by decide) ?_
        refine mv_if_eq_f (tgt := 61) d_TrustDeskModel_sum_8 (by decide) (by decide) ?_
        refine mv_aload_n d_TrustDeskModel_sum_11 rfl rfl ?_
        refine mv_bipush (v := 43) d_TrustDeskModel_sum_12 (by decide) ?_
        obtain ⟨_, b18, -⟩ := I_13.1 _ _ h_q0_13
        refine mv_callV (kc1 := 0) (ks1 := 0) (kc' := 0) (ks' := 0) (As := [.int 43]) (st9 := [.int 43, .ref o0]) d_TrustDeskModel_sum_14 lV_TrustDeskModel_234 b18 rfl (mj_enter (by decide) (Nat.le_of_ble_eq_true rfl) ?_) rfl (Nat.le_of_ble_eq_true rfl) (Nat.le_of_ble_eq_true rfl) (Nat.le_of_ble_eq_true rfl) (hst := rfl) (fun _ _ _ h => h)
        refine mv_aload_n d_TrustDeskModel_isSign_0 rfl rfl ?_
        obtain ⟨v20, q19⟩ := tm_atI I_13 h_q0_13 (k := 17) rfl
        refine tr_getK q19 d_TrustDeskModel_isSign_1 f_TrustDeskModel_198_13 ?_
        have := tm_rv q19
        refine mv_iconst (v := 4) d_TrustDeskModel_isSign_4 (by decide) ?_
        have := mz_hi v20
        refine mv_icmp_neZ (tgt := 20) (a := v20.toInt) (b := 4) d_TrustDeskModel_isSign_5 (by decide) rfl (by decide) (fun b21 => ?_) (fun b21 => ?_)
        · refine mv_iconst (v := 0) d_TrustDeskModel_isSign_20 (by decide) ?_
          refine mv_iret d_TrustDeskModel_isSign_21 rfl (by decide) ?_
          refine mv_if_ne_f (tgt := 29) d_TrustDeskModel_sum_17 (by decide) (by decide) ?_
          refine mv_aload_n d_TrustDeskModel_sum_20 rfl rfl ?_
          refine mv_bipush (v := 45) d_TrustDeskModel_sum_21 (by decide) ?_
          obtain ⟨_, b22, -⟩ := I_13.1 _ _ h_q0_13
          refine mv_callV (kc1 := 0) (ks1 := 0) (kc' := 0) (ks' := 0) (As := [.int 45]) (st9 := [.int 45, .ref o0]) d_TrustDeskModel_sum_23 lV_TrustDeskModel_234 b22 rfl (mj_enter (by decide) (Nat.le_of_ble_eq_true rfl) ?_) rfl (Nat.le_of_ble_eq_true rfl) (Nat.le_of_ble_eq_true rfl) (Nat.le_of_ble_eq_true rfl) (hst := rfl) (fun _ _ _ h => h)
          refine mv_aload_n d_TrustDeskModel_isSign_0 rfl rfl ?_
          refine tr_getK (k := 17) q19 d_TrustDeskModel_isSign_1 f_TrustDeskModel_198_13 ?_
          refine mv_iconst (v := 4) d_TrustDeskModel_isSign_4 (by decide) ?_
          have := mz_hi v20
          refine mv_icmp_neZ (tgt := 20) (a := v20.toInt) (b := 4) d_TrustDeskModel_isSign_5 (by decide) rfl (by decide) (fun b23 => ?_) (fun b23 => ?_)
          · refine mv_iconst (v := 0) d_TrustDeskModel_isSign_20 (by decide) ?_
            refine mv_iret d_TrustDeskModel_isSign_21 rfl (by decide) ?_
            refine mv_if_eq_t (tgt := 61) d_TrustDeskModel_sum_26 (by decide) (by decide) ?_
            exact mv_vret d_TrustDeskModel_sum_61 rfl ⟨_, I_13, rfl, kKR_13, kKE_13, (by have := kKR_13.1 15 _ _ rfl; have := kKR_13.1 16 _ _ rfl; have := kKR_13.1 19 _ _ rfl; have := kKE_13.f yS; omega)⟩
          · refine mv_aload_n d_TrustDeskModel_isSign_8 rfl rfl ?_
            obtain ⟨v25, q24⟩ := tm_atI I_13 h_q0_13 (k := 18) rfl
            refine tr_getK q24 d_TrustDeskModel_isSign_9 f_TrustDeskModel_201_13 ?_
            have := kKR_13.f (k := 18) q24 rfl
            have := tm_rv q24
            refine mv_iload_n d_TrustDeskModel_isSign_12 rfl rfl ?_
            have := mz_hi v25
            refine mv_icmp_neZ (tgt := 20) (a := v25.toInt) (b := 45) d_TrustDeskModel_isSign_13 (by decide) rfl (by decide) (fun b26 => ?_) (fun b26 => ?_)
            · refine mv_iconst (v := 0) d_TrustDeskModel_isSign_20 (by decide) ?_
              refine mv_iret d_TrustDeskModel_isSign_21 rfl (by decide) ?_
              refine mv_if_eq_t (tgt := 61) d_TrustDeskModel_sum_26 (by decide) (by decide) ?_
              exact mv_vret d_TrustDeskModel_sum_61 rfl ⟨_, I_13, rfl, kKR_13, kKE_13, (by have := kKR_13.1 15 _ _ rfl; have := kKR_13.1 16 _ _ rfl; have := kKR_13.1 19 _ _ rfl; have := kKE_13.f yS; omega)⟩
            · refine mv_iconst (v := 1) d_TrustDeskModel_isSign_16 (by decide) ?_
              refine mv_goto (tgt := 21) d_TrustDeskModel_isSign_17 (by decide) ?_
              refine mv_iret d_TrustDeskModel_isSign_21 rfl (by decide) ?_
              refine mv_if_eq_f (tgt := 61) d_TrustDeskModel_sum_26 (by decide) (by decide) ?_
              refine mv_aload_n d_TrustDeskModel_sum_29 rfl rfl ?_
              refine mv_bipush (v := 43) d_TrustDeskModel_sum_30 (by decide) ?_
              obtain ⟨_, b27, -⟩ := I_13.1 _ _ h_q0_13
              refine mv_callV (kc1 := 0) (ks1 := 0) (kc' := 0) (ks' := 0) (As := [.int 43]) (st9 := [.int 43, .ref o0]) d_TrustDeskModel_sum_32 lV_TrustDeskModel_234 b27 rfl (mj_enter (by decide) (Nat.le_of_ble_eq_true rfl) ?_) rfl (Nat.le_of_ble_eq_true rfl) (Nat.le_of_ble_eq_true rfl) (Nat.le_of_ble_eq_true rfl) (hst := rfl) (fun _ _ _ h => h)
              refine mv_aload_n d_TrustDeskModel_isSign_0 rfl rfl ?_
              refine tr_getK (k := 17) q19 d_TrustDeskModel_isSign_1 f_TrustDeskModel_198_13 ?_
              refine mv_iconst (v := 4) d_TrustDeskModel_isSign_4 (by decide) ?_
              have := mz_hi v20
              refine mv_icmp_neZ (tgt := 20) (a := v20.toInt) (b := 4) d_TrustDeskModel_isSign_5 (by decide) rfl (by decide) (fun b28 => absurd b28 (by omega)) (fun b28 => ?_)
              refine mv_aload_n d_TrustDeskModel_isSign_8 rfl rfl ?_
              refine tr_getK (k := 18) q24 d_TrustDeskModel_isSign_9 f_TrustDeskModel_201_13 ?_
              refine mv_iload_n d_TrustDeskModel_isSign_12 rfl rfl ?_
              have := mz_hi v25
              refine mv_icmp_neZ (tgt := 20) (a := v25.toInt) (b := 43) d_TrustDeskModel_isSign_13 (by decide) rfl (by decide) (fun b29 => ?_) (fun b29 => absurd b29 (by omega))
              refine mv_iconst (v := 0) d_TrustDeskModel_isSign_20 (by decide) ?_
              refine mv_iret d_TrustDeskModel_isSign_21 rfl (by decide) ?_
              refine mv_istore_n (lv' := [(1, .int 0), (0, .ref o0)]) d_TrustDeskModel_sum_35 rfl (by decide) rfl ?_
              refine mv_aload_n d_TrustDeskModel_sum_36 rfl rfl ?_
              obtain ⟨_, b36, -⟩ := I_13.1 _ _ h_q0_13
              refine mv_callV (kc' := 0) (ks' := 0) (As := []) (st9 := [.ref o0]) d_TrustDeskModel_sum_37 lV_TrustDeskModel_237 b36 rfl (tc_TrustDeskModel_next_x (d := (d + 6)) (x9 := x9) (o0 := o0) h_q0_13 kKR_13 I_13.start) rfl (Nat.le_of_ble_eq_true rfl) (Nat.le_of_ble_eq_true rfl) (Nat.le_of_ble_eq_true rfl) (hst := rfl) (fun b30r M31 n32 b30 => ?_)
              obtain ⟨T33, J34, rfl, R37, f38, f39⟩ := b30
              have I35 := I_13.call J34 (tm_sub (by decide)) (Or.inl rfl)
              have t40 := J34.up h_q0_13
              have := (rv_c I_13 J34 (I_13.up h_o0) (k := 19) rfl)
              have := (rv_c I_13 J34 (I_13.up h_o0) (k := 22) rfl)
              have h42 : rv M_13 o0 16 + 1 ≤ rv M_13 o0 15 := (by have := kKR_13.1 15 _ _ rfl; have := kKR_13.1 16 _ _ rfl; have := kKR_13.1 19 _ _ rfl; have := kKE_13.f yS; omega)
              have E41 : rE M0 M31 o0 1 1 := kKE_13.next f38 f39 (rv_c I_13 J34 (I_13.up h_o0) (k := 19) rfl) (rE_ha I_13 J34 (I_13.up h_o0) (by decide)) (e := 1) h42 (by decide)
              have q43 := J34.keep h_q0_13 (by decide) q15
              refine mv_aload_n d_TrustDeskModel_sum_40 rfl rfl ?_
              obtain ⟨_, b50, -⟩ := I35.1 _ _ t40
              refine mv_callV (kc' := 0) (ks' := 0) (As := []) (st9 := [.ref o0]) d_TrustDeskModel_sum_41 lV_TrustDeskModel_297 b50 rfl (tc_TrustDeskModel_product_q1_x (d := d) (x9 := x9) (o0 := o0) t40 R37 E41.1 (by have := R37.1 15 _ _ rfl; have := R37.1 16 _ _ rfl; have := R37.1 19 _ _ rfl; have := E41.f yS; omega) (by have := R37.1 15 _ _ rfl; have := R37.1 16 _ _ rfl; have := R37.1 19 _ _ rfl; have := E41.f yS; omega) I35.start) rfl (Nat.le_of_ble_eq_true rfl) (Nat.le_of_ble_eq_true rfl) (Nat.le_of_ble_eq_true rfl) (hst := rfl) (fun b44r M45 n46 b44 => ?_)
              obtain ⟨T47, J48, rfl, R51, f52, f53⟩ := b44
              have I49 := I35.call J48 (tm_sub (by decide)) (Or.inl rfl)
              have t54 := J48.up t40
              have E55 : rE M0 M45 o0 2 1 := E41.trans f52 (by decide) (yR.2 5 _ _ rfl 44).1 (by decide) (by decide)
              have := f52.w
              refine mv_aload_n d_TrustDeskModel_sum_44 rfl rfl ?_
              refine mv_iload_n d_TrustDeskModel_sum_45 rfl rfl ?_
              refine mv_if_eq_t (tgt := 53) d_TrustDeskModel_sum_46 (by decide) (by decide) ?_
              refine mv_bipush (v := (-2)) d_TrustDeskModel_sum_53 (by decide) ?_
              obtain ⟨_, b62, -⟩ := I49.1 _ _ t54
              refine mv_callV (kc' := 0) (ks' := 0) (As := [.int (-2)]) (st9 := [.int (-2), .ref o0]) d_TrustDeskModel_sum_55 lV_TrustDeskModel_279 b62 rfl (tc_TrustDeskModel_emits_x (d := (d + 6)) (x9 := x9) (o0 := o0) (x1 := (-2)) t54 R51 (by have := R51.1 15 _ _ rfl; have := R51.1 16 _ _ rfl; have := R51.1 19 _ _ rfl; have := E55.f yS; omega) (by decide) I49.start) rfl (Nat.le_of_ble_eq_true rfl) (Nat.le_of_ble_eq_true rfl) (Nat.le_of_ble_eq_true rfl) (hst := rfl) (fun b56r M57 n58 b56 => ?_)
              obtain ⟨T59, J60, rfl, R63, f64⟩ := b56
              have I61 := I49.call J60 (tm_sub (by decide)) (Or.inl rfl)
              have t65 := J60.up t54
              have := (rv_c I49 J60 (I49.up h_o0) (k := 16) rfl)
              have := (rv_c I49 J60 (I49.up h_o0) (k := 17) rfl)
              have := (rv_c I49 J60 (I49.up h_o0) (k := 19) rfl)
              have := (rv_c I49 J60 (I49.up h_o0) (k := 22) rfl)
              have E66 : rE M0 M57 o0 1 0 := E55.emit f64 (rE_hv I49 J60 (I49.up h_o0) 15 19 (by decide)) (yR.2 5 _ _ rfl 44).1 (by decide) (Or.inr (Or.inr ⟨by decide, by decide, by decide, by decide⟩)) (by decide)
              refine mv_goto (tgt := 4) d_TrustDeskModel_sum_58 (by decide) ?_
              refine mv_locals (lv' := [(0, .ref o0)]) (by intro q hq; simp only [List.mem_cons, List.not_mem_nil, or_false] at hq; rcases hq with rfl <;> rfl) ?_
              exact (ih13 T59 M57 n58 I61 t65 (by have := R63.1 15 _ _ rfl; have := R63.1 16 _ _ rfl; have := R63.1 19 _ _ rfl; have := E66.f yS; first | omega | decide) R63 E66 (by have := R63.1 15 _ _ rfl; have := R63.1 16 _ _ rfl; have := R63.1 19 _ _ rfl; have := E66.f yS; omega))
        · refine mv_aload_n d_TrustDeskModel_isSign_8 rfl rfl ?_
          obtain ⟨v68, q67⟩ := tm_atI I_13 h_q0_13 (k := 18) rfl
          refine tr_getK q67 d_TrustDeskModel_isSign_9 f_TrustDeskModel_201_13 ?_
          have := kKR_13.f (k := 18) q67 rfl
          have := tm_rv q67
          refine mv_iload_n d_TrustDeskModel_isSign_12 rfl rfl ?_
          have := mz_hi v68
          refine mv_icmp_neZ (tgt := 20) (a := v68.toInt) (b := 43) d_TrustDeskModel_isSign_13 (by decide) rfl (by decide) (fun b69 => ?_) (fun b69 => ?_)
          · refine mv_iconst (v := 0) d_TrustDeskModel_isSign_20 (by decide) ?_
            refine mv_iret d_TrustDeskModel_isSign_21 rfl (by decide) ?_
            refine mv_if_ne_f (tgt := 29) d_TrustDeskModel_sum_17 (by decide) (by decide) ?_
            refine mv_aload_n d_TrustDeskModel_sum_20 rfl rfl ?_
            refine mv_bipush (v := 45) d_TrustDeskModel_sum_21 (by decide) ?_
            obtain ⟨_, b70, -⟩ := I_13.1 _ _ h_q0_13
            refine mv_callV (kc1 := 0) (ks1 := 0) (kc' := 0) (ks' := 0) (As := [.int 45]) (st9 := [.int 45, .ref o0]) d_TrustDeskModel_sum_23 lV_TrustDeskModel_234 b70 rfl (mj_enter (by decide) (Nat.le_of_ble_eq_true rfl) ?_) rfl (Nat.le_of_ble_eq_true rfl) (Nat.le_of_ble_eq_true rfl) (Nat.le_of_ble_eq_true rfl) (hst := rfl) (fun _ _ _ h => h)
            refine mv_aload_n d_TrustDeskModel_isSign_0 rfl rfl ?_
            refine tr_getK (k := 17) q19 d_TrustDeskModel_isSign_1 f_TrustDeskModel_198_13 ?_
            refine mv_iconst (v := 4) d_TrustDeskModel_isSign_4 (by decide) ?_
            have := mz_hi v20
            refine mv_icmp_neZ (tgt := 20) (a := v20.toInt) (b := 4) d_TrustDeskModel_isSign_5 (by decide) rfl (by decide) (fun b71 => absurd b71 (by omega)) (fun b71 => ?_)
            refine mv_aload_n d_TrustDeskModel_isSign_8 rfl rfl ?_
            refine tr_getK (k := 18) q67 d_TrustDeskModel_isSign_9 f_TrustDeskModel_201_13 ?_
            refine mv_iload_n d_TrustDeskModel_isSign_12 rfl rfl ?_
            have := mz_hi v68
            refine mv_icmp_neZ (tgt := 20) (a := v68.toInt) (b := 45) d_TrustDeskModel_isSign_13 (by decide) rfl (by decide) (fun b72 => ?_) (fun b72 => ?_)
            · refine mv_iconst (v := 0) d_TrustDeskModel_isSign_20 (by decide) ?_
              refine mv_iret d_TrustDeskModel_isSign_21 rfl (by decide) ?_
              refine mv_if_eq_t (tgt := 61) d_TrustDeskModel_sum_26 (by decide) (by decide) ?_
              exact mv_vret d_TrustDeskModel_sum_61 rfl ⟨_, I_13, rfl, kKR_13, kKE_13, (by have := kKR_13.1 15 _ _ rfl; have := kKR_13.1 16 _ _ rfl; have := kKR_13.1 19 _ _ rfl; have := kKE_13.f yS; omega)⟩
            · refine mv_iconst (v := 1) d_TrustDeskModel_isSign_16 (by decide) ?_
              refine mv_goto (tgt := 21) d_TrustDeskModel_isSign_17 (by decide) ?_
              refine mv_iret d_TrustDeskModel_isSign_21 rfl (by decide) ?_
              refine mv_if_eq_f (tgt := 61) d_TrustDeskModel_sum_26 (by decide) (by decide) ?_
              refine mv_aload_n d_TrustDeskModel_sum_29 rfl rfl ?_
              refine mv_bipush (v := 43) d_TrustDeskModel_sum_30 (by decide) ?_
              obtain ⟨_, b73, -⟩ := I_13.1 _ _ h_q0_13
              refine mv_callV (kc1 := 0) (ks1 := 0) (kc' := 0) (ks' := 0) (As := [.int 43]) (st9 := [.int 43, .ref o0]) d_TrustDeskModel_sum_32 lV_TrustDeskModel_234 b73 rfl (mj_enter (by decide) (Nat.le_of_ble_eq_true rfl) ?_) rfl (Nat.le_of_ble_eq_true rfl) (Nat.le_of_ble_eq_true rfl) (Nat.le_of_ble_eq_true rfl) (hst := rfl) (fun _ _ _ h => h)
              refine mv_aload_n d_TrustDeskModel_isSign_0 rfl rfl ?_
              refine tr_getK (k := 17) q19 d_TrustDeskModel_isSign_1 f_TrustDeskModel_198_13 ?_
              refine mv_iconst (v := 4) d_TrustDeskModel_isSign_4 (by decide) ?_
              have := mz_hi v20
              refine mv_icmp_neZ (tgt := 20) (a := v20.toInt) (b := 4) d_TrustDeskModel_isSign_5 (by decide) rfl (by decide) (fun b74 => absurd b74 (by omega)) (fun b74 => ?_)
              refine mv_aload_n d_TrustDeskModel_isSign_8 rfl rfl ?_
              refine tr_getK (k := 18) q67 d_TrustDeskModel_isSign_9 f_TrustDeskModel_201_13 ?_
              refine mv_iload_n d_TrustDeskModel_isSign_12 rfl rfl ?_
              have := mz_hi v68
              refine mv_icmp_neZ (tgt := 20) (a := v68.toInt) (b := 43) d_TrustDeskModel_isSign_13 (by decide) rfl (by decide) (fun b75 => ?_) (fun b75 => absurd b75 (by omega))
              refine mv_iconst (v := 0) d_TrustDeskModel_isSign_20 (by decide) ?_
              refine mv_iret d_TrustDeskModel_isSign_21 rfl (by decide) ?_
              refine mv_istore_n (lv' := [(1, .int 0), (0, .ref o0)]) d_TrustDeskModel_sum_35 rfl (by decide) rfl ?_
              refine mv_aload_n d_TrustDeskModel_sum_36 rfl rfl ?_
              obtain ⟨_, b82, -⟩ := I_13.1 _ _ h_q0_13
              refine mv_callV (kc' := 0) (ks' := 0) (As := []) (st9 := [.ref o0]) d_TrustDeskModel_sum_37 lV_TrustDeskModel_237 b82 rfl (tc_TrustDeskModel_next_x (d := (d + 6)) (x9 := x9) (o0 := o0) h_q0_13 kKR_13 I_13.start) rfl (Nat.le_of_ble_eq_true rfl) (Nat.le_of_ble_eq_true rfl) (Nat.le_of_ble_eq_true rfl) (hst := rfl) (fun b76r M77 n78 b76 => ?_)
              obtain ⟨T79, J80, rfl, R83, f84, f85⟩ := b76
              have I81 := I_13.call J80 (tm_sub (by decide)) (Or.inl rfl)
              have t86 := J80.up h_q0_13
              have := (rv_c I_13 J80 (I_13.up h_o0) (k := 19) rfl)
              have := (rv_c I_13 J80 (I_13.up h_o0) (k := 22) rfl)
              have h88 : rv M_13 o0 16 + 1 ≤ rv M_13 o0 15 := (by have := kKR_13.1 15 _ _ rfl; have := kKR_13.1 16 _ _ rfl; have := kKR_13.1 19 _ _ rfl; have := kKE_13.f yS; omega)
              have E87 : rE M0 M77 o0 1 1 := kKE_13.next f84 f85 (rv_c I_13 J80 (I_13.up h_o0) (k := 19) rfl) (rE_ha I_13 J80 (I_13.up h_o0) (by decide)) (e := 1) h88 (by decide)
              have q89 := J80.keep h_q0_13 (by decide) q15
              refine mv_aload_n d_TrustDeskModel_sum_40 rfl rfl ?_
              obtain ⟨_, b96, -⟩ := I81.1 _ _ t86
              refine mv_callV (kc' := 0) (ks' := 0) (As := []) (st9 := [.ref o0]) d_TrustDeskModel_sum_41 lV_TrustDeskModel_297 b96 rfl (tc_TrustDeskModel_product_q1_x (d := d) (x9 := x9) (o0 := o0) t86 R83 E87.1 (by have := R83.1 15 _ _ rfl; have := R83.1 16 _ _ rfl; have := R83.1 19 _ _ rfl; have := E87.f yS; omega) (by have := R83.1 15 _ _ rfl; have := R83.1 16 _ _ rfl; have := R83.1 19 _ _ rfl; have := E87.f yS; omega) I81.start) rfl (Nat.le_of_ble_eq_true rfl) (Nat.le_of_ble_eq_true rfl) (Nat.le_of_ble_eq_true rfl) (hst := rfl) (fun b90r M91 n92 b90 => ?_)
              obtain ⟨T93, J94, rfl, R97, f98, f99⟩ := b90
              have I95 := I81.call J94 (tm_sub (by decide)) (Or.inl rfl)
              have t100 := J94.up t86
              have E101 : rE M0 M91 o0 2 1 := E87.trans f98 (by decide) (yR.2 5 _ _ rfl 44).1 (by decide) (by decide)
              have := f98.w
              refine mv_aload_n d_TrustDeskModel_sum_44 rfl rfl ?_
              refine mv_iload_n d_TrustDeskModel_sum_45 rfl rfl ?_
              refine mv_if_eq_t (tgt := 53) d_TrustDeskModel_sum_46 (by decide) (by decide) ?_
              refine mv_bipush (v := (-2)) d_TrustDeskModel_sum_53 (by decide) ?_
              obtain ⟨_, b108, -⟩ := I95.1 _ _ t100
              refine mv_callV (kc' := 0) (ks' := 0) (As := [.int (-2)]) (st9 := [.int (-2), .ref o0]) d_TrustDeskModel_sum_55 lV_TrustDeskModel_279 b108 rfl (tc_TrustDeskModel_emits_x (d := (d + 6)) (x9 := x9) (o0 := o0) (x1 := (-2)) t100 R97 (by have := R97.1 15 _ _ rfl; have := R97.1 16 _ _ rfl; have := R97.1 19 _ _ rfl; have := E101.f yS; omega) (by decide) I95.start) rfl (Nat.le_of_ble_eq_true rfl) (Nat.le_of_ble_eq_true rfl) (Nat.le_of_ble_eq_true rfl) (hst := rfl) (fun b102r M103 n104 b102 => ?_)
              obtain ⟨T105, J106, rfl, R109, f110⟩ := b102
              have I107 := I95.call J106 (tm_sub (by decide)) (Or.inl rfl)
              have t111 := J106.up t100
              have := (rv_c I95 J106 (I95.up h_o0) (k := 16) rfl)
              have := (rv_c I95 J106 (I95.up h_o0) (k := 17) rfl)
              have := (rv_c I95 J106 (I95.up h_o0) (k := 19) rfl)
              have := (rv_c I95 J106 (I95.up h_o0) (k := 22) rfl)
              have E112 : rE M0 M103 o0 1 0 := E101.emit f110 (rE_hv I95 J106 (I95.up h_o0) 15 19 (by decide)) (yR.2 5 _ _ rfl 44).1 (by decide) (Or.inr (Or.inr ⟨by decide, by decide, by decide, by decide⟩)) (by decide)
              refine mv_goto (tgt := 4) d_TrustDeskModel_sum_58 (by decide) ?_
              refine mv_locals (lv' := [(0, .ref o0)]) (by intro q hq; simp only [List.mem_cons, List.not_mem_nil, or_false] at hq; rcases hq with rfl <;> rfl) ?_
              exact (ih13 T105 M103 n104 I107 t111 (by have := R109.1 15 _ _ rfl; have := R109.1 16 _ _ rfl; have := R109.1 19 _ _ rfl; have := E112.f yS; first | omega | decide) R109 E112 (by have := R109.1 15 _ _ rfl; have := R109.1 16 _ _ rfl; have := R109.1 19 _ _ rfl; have := E112.f yS; omega))
          · refine mv_iconst (v := 1) d_TrustDeskModel_isSign_16 (by decide) ?_
            refine mv_goto (tgt := 21) d_TrustDeskModel_isSign_17 (by decide) ?_
            refine mv_iret d_TrustDeskModel_isSign_21 rfl (by decide) ?_
            refine mv_if_ne_t (tgt := 29) d_TrustDeskModel_sum_17 (by decide) (by decide) ?_
            refine mv_aload_n d_TrustDeskModel_sum_29 rfl rfl ?_
            refine mv_bipush (v := 43) d_TrustDeskModel_sum_30 (by decide) ?_
            obtain ⟨_, b113, -⟩ := I_13.1 _ _ h_q0_13
            refine mv_callV (kc1 := 0) (ks1 := 0) (kc' := 0) (ks' := 0) (As := [.int 43]) (st9 := [.int 43, .ref o0]) d_TrustDeskModel_sum_32 lV_TrustDeskModel_234 b113 rfl (mj_enter (by decide) (Nat.le_of_ble_eq_true rfl) ?_) rfl (Nat.le_of_ble_eq_true rfl) (Nat.le_of_ble_eq_true rfl) (Nat.le_of_ble_eq_true rfl) (hst := rfl) (fun _ _ _ h => h)
            refine mv_aload_n d_TrustDeskModel_isSign_0 rfl rfl ?_
            refine tr_getK (k := 17) q19 d_TrustDeskModel_isSign_1 f_TrustDeskModel_198_13 ?_
            refine mv_iconst (v := 4) d_TrustDeskModel_isSign_4 (by decide) ?_
            have := mz_hi v20
            refine mv_icmp_neZ (tgt := 20) (a := v20.toInt) (b := 4) d_TrustDeskModel_isSign_5 (by decide) rfl (by decide) (fun b114 => absurd b114 (by omega)) (fun b114 => ?_)
            refine mv_aload_n d_TrustDeskModel_isSign_8 rfl rfl ?_
            refine tr_getK (k := 18) q67 d_TrustDeskModel_isSign_9 f_TrustDeskModel_201_13 ?_
            refine mv_iload_n d_TrustDeskModel_isSign_12 rfl rfl ?_
            have := mz_hi v68
            refine mv_icmp_neZ (tgt := 20) (a := v68.toInt) (b := 43) d_TrustDeskModel_isSign_13 (by decide) rfl (by decide) (fun b115 => absurd b115 (by omega)) (fun b115 => ?_)
            refine mv_iconst (v := 1) d_TrustDeskModel_isSign_16 (by decide) ?_
            refine mv_goto (tgt := 21) d_TrustDeskModel_isSign_17 (by decide) ?_
            refine mv_iret d_TrustDeskModel_isSign_21 rfl (by decide) ?_
            refine mv_istore_n (lv' := [(1, .int 1), (0, .ref o0)]) d_TrustDeskModel_sum_35 rfl (by decide) rfl ?_
            refine mv_aload_n d_TrustDeskModel_sum_36 rfl rfl ?_
            obtain ⟨_, b122, -⟩ := I_13.1 _ _ h_q0_13
            refine mv_callV (kc' := 0) (ks' := 0) (As := []) (st9 := [.ref o0]) d_TrustDeskModel_sum_37 lV_TrustDeskModel_237 b122 rfl (tc_TrustDeskModel_next_x (d := (d + 6)) (x9 := x9) (o0 := o0) h_q0_13 kKR_13 I_13.start) rfl (Nat.le_of_ble_eq_true rfl) (Nat.le_of_ble_eq_true rfl) (Nat.le_of_ble_eq_true rfl) (hst := rfl) (fun b116r M117 n118 b116 => ?_)
            obtain ⟨T119, J120, rfl, R123, f124, f125⟩ := b116
            have I121 := I_13.call J120 (tm_sub (by decide)) (Or.inl rfl)
            have t126 := J120.up h_q0_13
            have := (rv_c I_13 J120 (I_13.up h_o0) (k := 19) rfl)
            have := (rv_c I_13 J120 (I_13.up h_o0) (k := 22) rfl)
            have h128 : rv M_13 o0 16 + 1 ≤ rv M_13 o0 15 := (by have := kKR_13.1 15 _ _ rfl; have := kKR_13.1 16 _ _ rfl; have := kKR_13.1 19 _ _ rfl; have := kKE_13.f yS; omega)
            have E127 : rE M0 M117 o0 1 1 := kKE_13.next f124 f125 (rv_c I_13 J120 (I_13.up h_o0) (k := 19) rfl) (rE_ha I_13 J120 (I_13.up h_o0) (by decide)) (e := 1) h128 (by decide)
            have q129 := J120.keep h_q0_13 (by decide) q15
            refine mv_aload_n d_TrustDeskModel_sum_40 rfl rfl ?_
            obtain ⟨_, b136, -⟩ := I121.1 _ _ t126
            refine mv_callV (kc' := 0) (ks' := 0) (As := []) (st9 := [.ref o0]) d_TrustDeskModel_sum_41 lV_TrustDeskModel_297 b136 rfl (tc_TrustDeskModel_product_q1_x (d := d) (x9 := x9) (o0 := o0) t126 R123 E127.1 (by have := R123.1 15 _ _ rfl; have := R123.1 16 _ _ rfl; have := R123.1 19 _ _ rfl; have := E127.f yS; omega) (by have := R123.1 15 _ _ rfl; have := R123.1 16 _ _ rfl; have := R123.1 19 _ _ rfl; have := E127.f yS; omega) I121.start) rfl (Nat.le_of_ble_eq_true rfl) (Nat.le_of_ble_eq_true rfl) (Nat.le_of_ble_eq_true rfl) (hst := rfl) (fun b130r M131 n132 b130 => ?_)
            obtain ⟨T133, J134, rfl, R137, f138, f139⟩ := b130
            have I135 := I121.call J134 (tm_sub (by decide)) (Or.inl rfl)
            have t140 := J134.up t126
            have E141 : rE M0 M131 o0 2 1 := E127.trans f138 (by decide) (yR.2 5 _ _ rfl 44).1 (by decide) (by decide)
            have := f138.w
            refine mv_aload_n d_TrustDeskModel_sum_44 rfl rfl ?_
            refine mv_iload_n d_TrustDeskModel_sum_45 rfl rfl ?_
            refine mv_if_eq_f (tgt := 53) d_TrustDeskModel_sum_46 (by decide) (by decide) ?_
            refine mv_iconst (v := (-1)) d_TrustDeskModel_sum_49 (by decide) ?_
            refine mv_goto (tgt := 55) d_TrustDeskModel_sum_50 (by decide) ?_
            obtain ⟨_, b148, -⟩ := I135.1 _ _ t140
            refine mv_callV (kc' := 0) (ks' := 0) (As := [.int (-1)]) (st9 := [.int (-1), .ref o0]) d_TrustDeskModel_sum_55 lV_TrustDeskModel_279 b148 rfl (tc_TrustDeskModel_emits_x (d := (d + 6)) (x9 := x9) (o0 := o0) (x1 := (-1)) t140 R137 (by have := R137.1 15 _ _ rfl; have := R137.1 16 _ _ rfl; have := R137.1 19 _ _ rfl; have := E141.f yS; omega) (by decide) I135.start) rfl (Nat.le_of_ble_eq_true rfl) (Nat.le_of_ble_eq_true rfl) (Nat.le_of_ble_eq_true rfl) (hst := rfl) (fun b142r M143 n144 b142 => ?_)
            obtain ⟨T145, J146, rfl, R149, f150⟩ := b142
            have I147 := I135.call J146 (tm_sub (by decide)) (Or.inl rfl)
            have t151 := J146.up t140
            have := (rv_c I135 J146 (I135.up h_o0) (k := 16) rfl)
            have := (rv_c I135 J146 (I135.up h_o0) (k := 17) rfl)
            have := (rv_c I135 J146 (I135.up h_o0) (k := 19) rfl)
            have := (rv_c I135 J146 (I135.up h_o0) (k := 22) rfl)
            have E152 : rE M0 M143 o0 1 0 := E141.emit f150 (rE_hv I135 J146 (I135.up h_o0) 15 19 (by decide)) (yR.2 5 _ _ rfl 44).1 (by decide) (Or.inr (Or.inr ⟨by decide, by decide, by decide, by decide⟩)) (by decide)
            refine mv_goto (tgt := 4) d_TrustDeskModel_sum_58 (by decide) ?_
            refine mv_locals (lv' := [(0, .ref o0)]) (by intro q hq; simp only [List.mem_cons, List.not_mem_nil, or_false] at hq; rcases hq with rfl <;> rfl) ?_
            exact (ih13 T145 M143 n144 I147 t151 (by have := R149.1 15 _ _ rfl; have := R149.1 16 _ _ rfl; have := R149.1 19 _ _ rfl; have := E152.f yS; first | omega | decide) R149 E152 (by have := R149.1 15 _ _ rfl; have := R149.1 16 _ _ rfl; have := R149.1 19 _ _ rfl; have := E152.f yS; omega))
  exact mv_less (Nat.zero_le _) (Nat.zero_le _) (L4_13 4294967296 T4 M2 n3 I6 t11 (by have := R8.1 15 _ _ rfl; have := R8.1 16 _ _ rfl; have := R8.1 19 _ _ rfl; have := E12.f yS; first | omega | decide) R8 E12 (by have := R8.1 15 _ _ rfl; have := R8.1 16 _ _ rfl; have := R8.1 19 _ _ rfl; have := E12.f yS; omega))
theorem d_TrustDeskModel_compares_4 : decode kY_TrustDeskModel_compares.2.1 4 = .ok (.aload_n 0, 1) := by decide +kernel
theorem d_TrustDeskModel_compares_5 : decode kY_TrustDeskModel_compares.2.1 5 = .ok (.invokevirtual 230, 3) := by decide +kernel
theorem d_TrustDeskModel_compares_8 : decode kY_TrustDeskModel_compares.2.1 8 = .ok (.ifCond .ne 4, 3) := by decide +kernel
theorem d_TrustDeskModel_compares_11 : decode kY_TrustDeskModel_compares.2.1 11 = .ok (.return_, 1) := by decide +kernel
theorem d_TrustDeskModel_compares_12 : decode kY_TrustDeskModel_compares.2.1 12 = .ok (.aload_n 0, 1) := by decide +kernel
theorem d_TrustDeskModel_compares_13 : decode kY_TrustDeskModel_compares.2.1 13 = .ok (.bipush 60, 2) := by decide +kernel
theorem d_TrustDeskModel_compares_15 : decode kY_TrustDeskModel_compares.2.1 15 = .ok (.invokevirtual 234, 3) := by decide +kernel
theorem d_TrustDeskModel_compares_18 : decode kY_TrustDeskModel_compares.2.1 18 = .ok (.ifCond .eq 8, 3) := by decide +kernel
theorem d_TrustDeskModel_compares_26 : decode kY_TrustDeskModel_compares.2.1 26 = .ok (.aload_n 0, 1) := by decide +kernel
theorem d_TrustDeskModel_compares_27 : decode kY_TrustDeskModel_compares.2.1 27 = .ok (.bipush 62, 2) := by decide +kernel
theorem d_TrustDeskModel_compares_29 : decode kY_TrustDeskModel_compares.2.1 29 = .ok (.invokevirtual 234, 3) := by decide +kernel
theorem d_TrustDeskModel_compares_32 : decode kY_TrustDeskModel_compares.2.1 32 = .ok (.ifCond .eq 8, 3) := by decide +kernel
theorem d_TrustDeskModel_compares_40 : decode kY_TrustDeskModel_compares.2.1 40 = .ok (.aload_n 0, 1) := by decide +kernel
theorem d_TrustDeskModel_compares_41 : decode kY_TrustDeskModel_compares.2.1 41 = .ok (.bipush 61, 2) := by decide +kernel
theorem d_TrustDeskModel_compares_43 : decode kY_TrustDeskModel_compares.2.1 43 = .ok (.invokevirtual 234, 3) := by decide +kernel
theorem d_TrustDeskModel_compares_46 : decode kY_TrustDeskModel_compares.2.1 46 = .ok (.ifCond .eq 8, 3) := by decide +kernel
theorem d_TrustDeskModel_compares_54 : decode kY_TrustDeskModel_compares.2.1 54 = .ok (.iconst 0, 1) := by decide +kernel
theorem d_TrustDeskModel_compares_55 : decode kY_TrustDeskModel_compares.2.1 55 = .ok (.istore_n 1, 1) := by decide +kernel
theorem d_TrustDeskModel_compares_56 : decode kY_TrustDeskModel_compares.2.1 56 = .ok (.iload_n 1, 1) := by decide +kernel
theorem d_TrustDeskModel_compares_57 : decode kY_TrustDeskModel_compares.2.1 57 = .ok (.ifCond .ne 8, 3) := by decide +kernel
theorem d_TrustDeskModel_compares_60 : decode kY_TrustDeskModel_compares.2.1 60 = .ok (.aload_n 0, 1) := by decide +kernel
theorem d_TrustDeskModel_compares_61 : decode kY_TrustDeskModel_compares.2.1 61 = .ok (.iconst 1, 1) := by decide +kernel
theorem d_TrustDeskModel_compares_62 : decode kY_TrustDeskModel_compares.2.1 62 = .ok (.invokevirtual 240, 3) := by decide +kernel
theorem d_TrustDeskModel_compares_65 : decode kY_TrustDeskModel_compares.2.1 65 = .ok (.aload_n 0, 1) := by decide +kernel
theorem d_TrustDeskModel_compares_66 : decode kY_TrustDeskModel_compares.2.1 66 = .ok (.invokevirtual 230, 3) := by decide +kernel
theorem d_TrustDeskModel_compares_69 : decode kY_TrustDeskModel_compares.2.1 69 = .ok (.ifCond .ne 4, 3) := by decide +kernel
theorem d_TrustDeskModel_compares_72 : decode kY_TrustDeskModel_compares.2.1 72 = .ok (.return_, 1) := by decide +kernel
theorem d_TrustDeskModel_compares_73 : decode kY_TrustDeskModel_compares.2.1 73 = .ok (.aload_n 0, 1) := by decide +kernel
theorem d_TrustDeskModel_compares_74 : decode kY_TrustDeskModel_compares.2.1 74 = .ok (.invokevirtual 237, 3) := by decide +kernel
theorem d_TrustDeskModel_compares_77 : decode kY_TrustDeskModel_compares.2.1 77 = .ok (.aload_n 0, 1) := by decide +kernel
theorem d_TrustDeskModel_compares_78 : decode kY_TrustDeskModel_compares.2.1 78 = .ok (.invokevirtual 288, 3) := by decide +kernel
theorem d_TrustDeskModel_compares_81 : decode kY_TrustDeskModel_compares.2.1 81 = .ok (.aload_n 0, 1) := by decide +kernel
theorem d_TrustDeskModel_compares_82 : decode kY_TrustDeskModel_compares.2.1 82 = .ok (.iload_n 1, 1) := by decide +kernel
theorem d_TrustDeskModel_compares_83 : decode kY_TrustDeskModel_compares.2.1 83 = .ok (.invokevirtual 279, 3) := by decide +kernel
theorem d_TrustDeskModel_compares_86 : decode kY_TrustDeskModel_compares.2.1 86 = .ok (.return_, 1) := by decide +kernel
theorem d_TrustDeskModel_compares_49 : decode kY_TrustDeskModel_compares.2.1 49 = .ok (.bipush (-6), 2) := by decide +kernel
theorem d_TrustDeskModel_compares_51 : decode kY_TrustDeskModel_compares.2.1 51 = .ok (.goto 4, 3) := by decide +kernel
theorem d_TrustDeskModel_compares_35 : decode kY_TrustDeskModel_compares.2.1 35 = .ok (.bipush (-5), 2) := by decide +kernel
theorem d_TrustDeskModel_compares_37 : decode kY_TrustDeskModel_compares.2.1 37 = .ok (.goto 18, 3) := by decide +kernel
theorem d_TrustDeskModel_compares_21 : decode kY_TrustDeskModel_compares.2.1 21 = .ok (.bipush (-4), 2) := by decide +kernel
theorem d_TrustDeskModel_compares_23 : decode kY_TrustDeskModel_compares.2.1 23 = .ok (.goto 32, 3) := by decide +kernel
def w_TrustDeskModel_compares_q1_x : List Nat := [1315, 1316, 1317, 1318, 1319, 1320, 1322, 20004, 20005]
theorem tc_TrustDeskModel_compares_q1_x {g : mj_G} {l : Launch} {d : Nat} {T0 : tm_H} {M0 : mj_M} {n0 x9 : Nat} {o0 : Nat} (h_o0 : T0 o0 = some (0, 13, 0)) (yR : rI M0 o0) (yT : rT M0 o0) (yS : rv M0 o0 19 = 0 → ra M0 o0 5 44 ≤ rv M0 o0 16) (yL : rv M0 o0 19 ≠ 0 ∨ (4 ≤ rv M0 o0 22 ∧ rv M0 o0 22 ≤ 4)) (I0 : tm_I tm_FT (tm_in w_TrustDeskModel_compares_q1_x) x9 T0 M0 n0 T0 M0 n0) : mj_Met g l kY_TrustDeskModel_compares (d + 9) [.ref o0] M0 n0 0 0 (tm_Q tm_FT (tm_in w_TrustDeskModel_compares_q1_x) x9 T0 M0 n0 (fun r _ M => r = none ∧ rI M o0 ∧ (rE M0 M o0 1 0) ∧ (rv M o0 19 = 0 → rv M o0 22 = rv M0 o0 22))) := by
  refine mj_enter (by decide) (Nat.le_of_ble_eq_true rfl) ?_
  have yE0 := rE.rf yT
  refine mv_aload_n d_TrustDeskModel_compares_0 rfl rfl ?_
  obtain ⟨_, b7, -⟩ := I0.1 _ _ h_o0
  refine mv_callV (kc' := 0) (ks' := 0) (As := []) (st9 := [.ref o0]) d_TrustDeskModel_compares_1 lV_TrustDeskModel_288 b7 rfl (tc_TrustDeskModel_sum_q1_x (d := d) (x9 := x9) (o0 := o0) h_o0 yR yE0.1 (by have := yR.1 15 _ _ rfl; have := yR.1 16 _ _ rfl; have := yR.1 19 _ _ rfl; have := yE0.f yS; omega) (by have := yR.1 15 _ _ rfl; have := yR.1 16 _ _ rfl; have := yR.1 19 _ _ rfl; have := yE0.f yS; omega) I0.start) rfl (Nat.le_of_ble_eq_true rfl) (Nat.le_of_ble_eq_true rfl) (Nat.le_of_ble_eq_true rfl) (hst := rfl) (fun b1r M2 n3 b1 => ?_)
  obtain ⟨T4, J5, rfl, R8, f9, f10⟩ := b1
  have I6 := I0.call J5 (tm_sub (by decide)) (Or.inl rfl)
  have t11 := J5.up h_o0
  have E12 : rE M0 M2 o0 1 0 := yE0.trans f9 (by decide) (yR.2 5 _ _ rfl 44).1 (by decide) (by decide)
  have := f9.w
  refine mv_aload_n d_TrustDeskModel_compares_4 rfl rfl ?_
  obtain ⟨_, b13, -⟩ := I6.1 _ _ t11
  refine mv_callV (kc1 := 0) (ks1 := 0) (kc' := 0) (ks' := 0) (As := []) (st9 := [.ref o0]) d_TrustDeskModel_compares_5 lV_TrustDeskModel_230 b13 rfl (mj_enter (by decide) (Nat.le_of_ble_eq_true rfl) ?_) rfl (Nat.le_of_ble_eq_true rfl) (Nat.le_of_ble_eq_true rfl) (Nat.le_of_ble_eq_true rfl) (hst := rfl) (fun _ _ _ h => h)
  refine mv_aload_n d_TrustDeskModel_isWell_0 rfl rfl ?_
  obtain ⟨v15, q14⟩ := tm_atI I6 t11 (k := 19) rfl
  refine tr_getK q14 d_TrustDeskModel_isWell_1 f_TrustDeskModel_224_13 ?_
  have := R8.f (k := 19) q14 rfl
  have := tm_rv q14
  have := mz_hi v15
  refine mv_if_neZ (tgt := 11) (a := v15.toInt) d_TrustDeskModel_isWell_4 (by decide) rfl (fun b16 => ?_) (fun b16 => ?_)
  · refine mv_iconst (v := 0) d_TrustDeskModel_isWell_11 (by decide) ?_
    refine mv_iret d_TrustDeskModel_isWell_12 rfl (by decide) ?_
    refine mv_if_ne_f (tgt := 12) d_TrustDeskModel_compares_8 (by decide) (by decide) ?_
    exact mv_vret d_TrustDeskModel_compares_11 rfl ⟨_, I6, rfl, R8, E12, (by have := R8.1 15 _ _ rfl; have := R8.1 16 _ _ rfl; have := R8.1 19 _ _ rfl; have := E12.f yS; omega)⟩
  · refine mv_iconst (v := 1) d_TrustDeskModel_isWell_7 (by decide) ?_
    refine mv_goto (tgt := 12) d_TrustDeskModel_isWell_8 (by decide) ?_
    refine mv_iret d_TrustDeskModel_isWell_12 rfl (by decide) ?_
    refine mv_if_ne_t (tgt := 12) d_TrustDeskModel_compares_8 (by decide) (by decide) ?_
    refine mv_aload_n d_TrustDeskModel_compares_12 rfl rfl ?_
    refine mv_bipush (v := 60) d_TrustDeskModel_compares_13 (by decide) ?_
    obtain ⟨_, b17, -⟩ := I6.1 _ _ t11
    refine mv_callV (kc1 := 0) (ks1 := 0) (kc' := 0) (ks' := 0) (As := [.int 60]) (st9 := [.int 60, .ref o0]) d_TrustDeskModel_compares_15 lV_TrustDeskModel_234 b17 rfl (mj_enter (by decide) (Nat.le_of_ble_eq_true rfl) ?_) rfl (Nat.le_of_ble_eq_true rfl) (Nat.le_of_ble_eq_true rfl) (Nat.le_of_ble_eq_true rfl) (hst := rfl) (fun _ _ _ h => h)
    refine mv_aload_n d_TrustDeskModel_isSign_0 rfl rfl ?_
    obtain ⟨v19, q18⟩ := tm_atI I6 t11 (k := 17) rfl
    refine tr_getK q18 d_TrustDeskModel_isSign_1 f_TrustDeskModel_198_13 ?_
    have := tm_rv q18
    refine mv_iconst (v := 4) d_TrustDeskModel_isSign_4 (by decide) ?_
    have := mz_hi v19
    refine mv_icmp_neZ (tgt := 20) (a := v19.toInt) (b := 4) d_TrustDeskModel_isSign_5 (by decide) rfl (by decide) (fun b20 => ?_) (fun b20 => ?_)
    · refine mv_iconst (v := 0) d_TrustDeskModel_isSign_20 (by decide) ?_
      refine mv_iret d_TrustDeskModel_isSign_21 rfl (by decide) ?_
      refine mv_if_eq_t (tgt := 26) d_TrustDeskModel_compares_18 (by decide) (by decide) ?_
      refine mv_aload_n d_TrustDeskModel_compares_26 rfl rfl ?_
      refine mv_bipush (v := 62) d_TrustDeskModel_compares_27 (by decide) ?_
      obtain ⟨_, b21, -⟩ := I6.1 _ _ t11
      refine mv_callV (kc1 := 0) (ks1 := 0) (kc' := 0) (ks' := 0) (As := [.int 62]) (st9 := [.int 62, .ref o0]) d_TrustDeskModel_compares_29 lV_TrustDeskModel_234 b21 rfl (mj_enter (by decide) (Nat.le_of_ble_eq_true rfl) ?_) rfl (Nat.le_of_ble_eq_true rfl) (Nat.le_of_ble_eq_true rfl) (Nat.le_of_ble_eq_true rfl) (hst := rfl) (fun _ _ _ h => h)
      refine mv_aload_n d_TrustDeskModel_isSign_0 rfl rfl ?_
      refine tr_getK (k := 17) q18 d_TrustDeskModel_isSign_1 f_TrustDeskModel_198_13 ?_
      refine mv_iconst (v := 4) d_TrustDeskModel_isSign_4 (by decide) ?_
      have := mz_hi v19
      refine mv_icmp_neZ (tgt := 20) (a := v19.toInt) (b := 4) d_TrustDeskModel_isSign_5 (by decide) rfl (by decide) (fun b22 => ?_) (fun b22 => ?_)
      · refine mv_iconst (v := 0) d_TrustDeskModel_isSign_20 (by decide) ?_
        refine mv_iret d_TrustDeskModel_isSign_21 rfl (by decide) ?_
        refine mv_if_eq_t (tgt := 40) d_TrustDeskModel_compares_32 (by decide) (by decide) ?_
        refine mv_aload_n d_TrustDeskModel_compares_40 rfl rfl ?_
        refine mv_bipush (v := 61) d_TrustDeskModel_compares_41 (by decide) ?_
        obtain ⟨_, b23, -⟩ := I6.1 _ _ t11
        refine mv_callV (kc1 := 0) (ks1 := 0) (kc' := 0) (ks' := 0) (As := [.int 61]) (st9 := [.int 61, .ref o0]) d_TrustDeskModel_compares_43 lV_TrustDeskModel_234 b23 rfl (mj_enter (by decide) (Nat.le_of_ble_eq_true rfl) ?_) rfl (Nat.le_of_ble_eq_true rfl) (Nat.le_of_ble_eq_true rfl) (Nat.le_of_ble_eq_true rfl) (hst := rfl) (fun _ _ _ h => h)
        refine mv_aload_n d_TrustDeskModel_isSign_0 rfl rfl ?_
        refine tr_getK (k := 17) q18 d_TrustDeskModel_isSign_1 f_TrustDeskModel_198_13 ?_
        refine mv_iconst (v := 4) d_TrustDeskModel_isSign_4 (by decide) ?_
        have := mz_hi v19
        refine mv_icmp_neZ (tgt := 20) (a := v19.toInt) (b := 4) d_TrustDeskModel_isSign_5 (by decide) rfl (by decide) (fun b24 => ?_) (fun b24 => ?_)
        · refine mv_iconst (v := 0) d_TrustDeskModel_isSign_20 (by decide) ?_
          refine mv_iret d_TrustDeskModel_isSign_21 rfl (by decide) ?_
          refine mv_if_eq_t (tgt := 54) d_TrustDeskModel_compares_46 (by decide) (by decide) ?_
          refine mv_iconst (v := 0) d_TrustDeskModel_compares_54 (by decide) ?_
          refine mv_istore_n (lv' := [(1, .int 0), (0, .ref o0)]) d_TrustDeskModel_compares_55 rfl (by decide) rfl ?_
          refine mv_iload_n d_TrustDeskModel_compares_56 rfl rfl ?_
          refine mv_if_ne_f (tgt := 65) d_TrustDeskModel_compares_57 (by decide) (by decide) ?_
          refine mv_aload_n d_TrustDeskModel_compares_60 rfl rfl ?_
          refine mv_iconst (v := 1) d_TrustDeskModel_compares_61 (by decide) ?_
          obtain ⟨_, b31, -⟩ := I6.1 _ _ t11
          refine mv_callV (kc' := 0) (ks' := 0) (As := [.int 1]) (st9 := [.int 1, .ref o0]) d_TrustDeskModel_compares_62 lV_TrustDeskModel_240 b31 rfl (tc_TrustDeskModel_fails_x (d := (d + 8)) (x9 := x9) (o0 := o0) (x1 := 1) t11 R8 (by decide) I6.start) rfl (Nat.le_of_ble_eq_true rfl) (Nat.le_of_ble_eq_true rfl) (Nat.le_of_ble_eq_true rfl) (hst := rfl) (fun b25r M26 n27 b25 => ?_)
          obtain ⟨T28, J29, rfl, R32, f33⟩ := b25
          have I30 := I6.call J29 (tm_sub (by decide)) (Or.inl rfl)
          have t34 := J29.up t11
          have := (rv_c I6 J29 (I6.up h_o0) (k := 16) rfl)
          have := (rv_c I6 J29 (I6.up h_o0) (k := 17) rfl)
          have := (rv_c I6 J29 (I6.up h_o0) (k := 22) rfl)
          have E35 : rE M0 M26 o0 1 0 := E12.fails (rE_hv I6 J29 (I6.up h_o0) 15 18 (by decide)) (rE_ha I6 J29 (I6.up h_o0) (by decide)) f33 1 0
          have q36 := J29.keep t11 (by decide) q18
          refine mv_aload_n d_TrustDeskModel_compares_65 rfl rfl ?_
          obtain ⟨_, b37, -⟩ := I30.1 _ _ t34
          refine mv_callV (kc1 := 0) (ks1 := 0) (kc' := 0) (ks' := 0) (As := []) (st9 := [.ref o0]) d_TrustDeskModel_compares_66 lV_TrustDeskModel_230 b37 rfl (mj_enter (by decide) (Nat.le_of_ble_eq_true rfl) ?_) rfl (Nat.le_of_ble_eq_true rfl) (Nat.le_of_ble_eq_true rfl) (Nat.le_of_ble_eq_true rfl) (hst := rfl) (fun _ _ _ h => h)
          refine mv_aload_n d_TrustDeskModel_isWell_0 rfl rfl ?_
          obtain ⟨v39, q38⟩ := tm_atI I30 t34 (k := 19) rfl
          refine tr_getK q38 d_TrustDeskModel_isWell_1 f_TrustDeskModel_224_13 ?_
          have := R32.f (k := 19) q38 rfl
          have := tm_rv q38
          have := mz_hi v39
          refine mv_if_neZ (tgt := 11) (a := v39.toInt) d_TrustDeskModel_isWell_4 (by decide) rfl (fun b40 => ?_) (fun b40 => ?_)
          · refine mv_iconst (v := 0) d_TrustDeskModel_isWell_11 (by decide) ?_
            refine mv_iret d_TrustDeskModel_isWell_12 rfl (by decide) ?_
            refine mv_if_ne_f (tgt := 73) d_TrustDeskModel_compares_69 (by decide) (by decide) ?_
            exact mv_vret d_TrustDeskModel_compares_72 rfl ⟨_, I30, rfl, R32, E35, (by have := R32.1 15 _ _ rfl; have := R32.1 16 _ _ rfl; have := R32.1 19 _ _ rfl; have := E35.f yS; omega)⟩
          · refine mv_iconst (v := 1) d_TrustDeskModel_isWell_7 (by decide) ?_
            refine mv_goto (tgt := 12) d_TrustDeskModel_isWell_8 (by decide) ?_
            refine mv_iret d_TrustDeskModel_isWell_12 rfl (by decide) ?_
            refine mv_if_ne_t (tgt := 73) d_TrustDeskModel_compares_69 (by decide) (by decide) ?_
            refine mv_aload_n d_TrustDeskModel_compares_73 rfl rfl ?_
            obtain ⟨_, b47, -⟩ := I30.1 _ _ t34
            refine mv_callV (kc' := 0) (ks' := 0) (As := []) (st9 := [.ref o0]) d_TrustDeskModel_compares_74 lV_TrustDeskModel_237 b47 rfl (tc_TrustDeskModel_next_x (d := (d + 7)) (x9 := x9) (o0 := o0) t34 R32 I30.start) rfl (Nat.le_of_ble_eq_true rfl) (Nat.le_of_ble_eq_true rfl) (Nat.le_of_ble_eq_true rfl) (hst := rfl) (fun b41r M42 n43 b41 => ?_)
            obtain ⟨T44, J45, rfl, R48, f49, f50⟩ := b41
            have I46 := I30.call J45 (tm_sub (by decide)) (Or.inl rfl)
            have t51 := J45.up t34
            have := (rv_c I30 J45 (I30.up h_o0) (k := 19) rfl)
            have := (rv_c I30 J45 (I30.up h_o0) (k := 22) rfl)
            have h53 : rv M26 o0 16 + 1 ≤ rv M26 o0 15 := (by have := R32.1 15 _ _ rfl; have := R32.1 16 _ _ rfl; have := R32.1 19 _ _ rfl; have := E35.f yS; omega)
            have E52 : rE M0 M42 o0 1 1 := E35.next f49 f50 (rv_c I30 J45 (I30.up h_o0) (k := 19) rfl) (rE_ha I30 J45 (I30.up h_o0) (by decide)) (e := 1) h53 (by decide)
            have q54 := J45.keep t34 (by decide) q38
            refine mv_aload_n d_TrustDeskModel_compares_77 rfl rfl ?_
            obtain ⟨_, b61, -⟩ := I46.1 _ _ t51
            refine mv_callV (kc' := 0) (ks' := 0) (As := []) (st9 := [.ref o0]) d_TrustDeskModel_compares_78 lV_TrustDeskModel_288 b61 rfl (tc_TrustDeskModel_sum_q1_x (d := d) (x9 := x9) (o0 := o0) t51 R48 E52.1 (by have := R48.1 15 _ _ rfl; have := R48.1 16 _ _ rfl; have := R48.1 19 _ _ rfl; have := E52.f yS; omega) (by have := R48.1 15 _ _ rfl; have := R48.1 16 _ _ rfl; have := R48.1 19 _ _ rfl; have := E52.f yS; omega) I46.start) rfl (Nat.le_of_ble_eq_true rfl) (Nat.le_of_ble_eq_true rfl) (Nat.le_of_ble_eq_true rfl) (hst := rfl) (fun b55r M56 n57 b55 => ?_)
            obtain ⟨T58, J59, rfl, R62, f63, f64⟩ := b55
            have I60 := I46.call J59 (tm_sub (by decide)) (Or.inl rfl)
            have t65 := J59.up t51
            have E66 : rE M0 M56 o0 2 1 := E52.trans f63 (by decide) (yR.2 5 _ _ rfl 44).1 (by decide) (by decide)
            have := f63.w
            refine mv_aload_n d_TrustDeskModel_compares_81 rfl rfl ?_
            refine mv_iload_n d_TrustDeskModel_compares_82 rfl rfl ?_
            obtain ⟨_, b73, -⟩ := I60.1 _ _ t65
            refine mv_callV (kc' := 0) (ks' := 0) (As := [.int 0]) (st9 := [.int 0, .ref o0]) d_TrustDeskModel_compares_83 lV_TrustDeskModel_279 b73 rfl (tc_TrustDeskModel_emits_x (d := (d + 7)) (x9 := x9) (o0 := o0) (x1 := 0) t65 R62 (by have := R62.1 15 _ _ rfl; have := R62.1 16 _ _ rfl; have := R62.1 19 _ _ rfl; have := E66.f yS; omega) (by decide) I60.start) rfl (Nat.le_of_ble_eq_true rfl) (Nat.le_of_ble_eq_true rfl) (Nat.le_of_ble_eq_true rfl) (hst := rfl) (fun b67r M68 n69 b67 => ?_)
            obtain ⟨T70, J71, rfl, R74, f75⟩ := b67
            have I72 := I60.call J71 (tm_sub (by decide)) (Or.inl rfl)
            have t76 := J71.up t65
            have := (rv_c I60 J71 (I60.up h_o0) (k := 16) rfl)
            have := (rv_c I60 J71 (I60.up h_o0) (k := 17) rfl)
            have := (rv_c I60 J71 (I60.up h_o0) (k := 19) rfl)
            have := (rv_c I60 J71 (I60.up h_o0) (k := 22) rfl)
            have E77 : rE M0 M68 o0 3 0 := E66.emit f75 (rE_hv I60 J71 (I60.up h_o0) 15 19 (by decide)) (yR.2 5 _ _ rfl 44).1 (by decide) (Or.inl ⟨by have := R62.1 15 _ _ rfl; have := R62.1 16 _ _ rfl; have := R62.1 19 _ _ rfl; have := E66.f yS; omega, by decide⟩) (by decide)
            exact mv_vret d_TrustDeskModel_compares_86 rfl ⟨_, I72, rfl, R74, E77.vac (by have := R74.1 15 _ _ rfl; have := R74.1 16 _ _ rfl; have := R74.1 19 _ _ rfl; have := E77.f yS; omega) 1 0, (by have := R74.1 15 _ _ rfl; have := R74.1 16 _ _ rfl; have := R74.1 19 _ _ rfl; have := E77.f yS; omega)⟩
        · refine mv_aload_n d_TrustDeskModel_isSign_8 rfl rfl ?_
          obtain ⟨v79, q78⟩ := tm_atI I6 t11 (k := 18) rfl
          refine tr_getK q78 d_TrustDeskModel_isSign_9 f_TrustDeskModel_201_13 ?_
          have := R8.f (k := 18) q78 rfl
          have := tm_rv q78
          refine mv_iload_n d_TrustDeskModel_isSign_12 rfl rfl ?_
          have := mz_hi v79
          refine mv_icmp_neZ (tgt := 20) (a := v79.toInt) (b := 61) d_TrustDeskModel_isSign_13 (by decide) rfl (by decide) (fun b80 => ?_) (fun b80 => ?_)
          · refine mv_iconst (v := 0) d_TrustDeskModel_isSign_20 (by decide) ?_
            refine mv_iret d_TrustDeskModel_isSign_21 rfl (by decide) ?_
            refine mv_if_eq_t (tgt := 54) d_TrustDeskModel_compares_46 (by decide) (by decide) ?_
            refine mv_iconst (v := 0) d_TrustDeskModel_compares_54 (by decide) ?_
            refine mv_istore_n (lv' := [(1, .int 0), (0, .ref o0)]) d_TrustDeskModel_compares_55 rfl (by decide) rfl ?_
            refine mv_iload_n d_TrustDeskModel_compares_56 rfl rfl ?_
            refine mv_if_ne_f (tgt := 65) d_TrustDeskModel_compares_57 (by decide) (by decide) ?_
            refine mv_aload_n d_TrustDeskModel_compares_60 rfl rfl ?_
            refine mv_iconst (v := 1) d_TrustDeskModel_compares_61 (by decide) ?_
            obtain ⟨_, b87, -⟩ := I6.1 _ _ t11
            refine mv_callV (kc' := 0) (ks' := 0) (As := [.int 1]) (st9 := [.int 1, .ref o0]) d_TrustDeskModel_compares_62 lV_TrustDeskModel_240 b87 rfl (tc_TrustDeskModel_fails_x (d := (d + 8)) (x9 := x9) (o0 := o0) (x1 := 1) t11 R8 (by decide) I6.start) rfl (Nat.le_of_ble_eq_true rfl) (Nat.le_of_ble_eq_true rfl) (Nat.le_of_ble_eq_true rfl) (hst := rfl) (fun b81r M82 n83 b81 => ?_)
            obtain ⟨T84, J85, rfl, R88, f89⟩ := b81
            have I86 := I6.call J85 (tm_sub (by decide)) (Or.inl rfl)
            have t90 := J85.up t11
            have := (rv_c I6 J85 (I6.up h_o0) (k := 16) rfl)
            have := (rv_c I6 J85 (I6.up h_o0) (k := 17) rfl)
            have := (rv_c I6 J85 (I6.up h_o0) (k := 22) rfl)
            have E91 : rE M0 M82 o0 1 0 := E12.fails (rE_hv I6 J85 (I6.up h_o0) 15 18 (by decide)) (rE_ha I6 J85 (I6.up h_o0) (by decide)) f89 1 0
            have q92 := J85.keep t11 (by decide) q18
            have q93 := J85.keep t11 (by decide) q78
            refine mv_aload_n d_TrustDeskModel_compares_65 rfl rfl ?_
            obtain ⟨_, b94, -⟩ := I86.1 _ _ t90
            refine mv_callV (kc1 := 0) (ks1 := 0) (kc' := 0) (ks' := 0) (As := []) (st9 := [.ref o0]) d_TrustDeskModel_compares_66 lV_TrustDeskModel_230 b94 rfl (mj_enter (by decide) (Nat.le_of_ble_eq_true rfl) ?_) rfl (Nat.le_of_ble_eq_true rfl) (Nat.le_of_ble_eq_true rfl) (Nat.le_of_ble_eq_true rfl) (hst := rfl) (fun _ _ _ h => h)
            refine mv_aload_n d_TrustDeskModel_isWell_0 rfl rfl ?_
            obtain ⟨v96, q95⟩ := tm_atI I86 t90 (k := 19) rfl
            refine tr_getK q95 d_TrustDeskModel_isWell_1 f_TrustDeskModel_224_13 ?_
            have := R88.f (k := 19) q95 rfl
            have := tm_rv q95
            have := mz_hi v96
            refine mv_if_neZ (tgt := 11) (a := v96.toInt) d_TrustDeskModel_isWell_4 (by decide) rfl (fun b97 => ?_) (fun b97 => ?_)
            · refine mv_iconst (v := 0) d_TrustDeskModel_isWell_11 (by decide) ?_
              refine mv_iret d_TrustDeskModel_isWell_12 rfl (by decide) ?_
              refine mv_if_ne_f (tgt := 73) d_TrustDeskModel_compares_69 (by decide) (by decide) ?_
              exact mv_vret d_TrustDeskModel_compares_72 rfl ⟨_, I86, rfl, R88, E91, (by have := R88.1 15 _ _ rfl; have := R88.1 16 _ _ rfl; have := R88.1 19 _ _ rfl; have := E91.f yS; omega)⟩
            · refine mv_iconst (v := 1) d_TrustDeskModel_isWell_7 (by decide) ?_
              refine mv_goto (tgt := 12) d_TrustDeskModel_isWell_8 (by decide) ?_
              refine mv_iret d_TrustDeskModel_isWell_12 rfl (by decide) ?_
              refine mv_if_ne_t (tgt := 73) d_TrustDeskModel_compares_69 (by decide) (by decide) ?_
              refine mv_aload_n d_TrustDeskModel_compares_73 rfl rfl ?_
              obtain ⟨_, b104, -⟩ := I86.1 _ _ t90
              refine mv_callV (kc' := 0) (ks' := 0) (As := []) (st9 := [.ref o0]) d_TrustDeskModel_compares_74 lV_TrustDeskModel_237 b104 rfl (tc_TrustDeskModel_next_x (d := (d + 7)) (x9 := x9) (o0 := o0) t90 R88 I86.start) rfl (Nat.le_of_ble_eq_true rfl) (Nat.le_of_ble_eq_true rfl) (Nat.le_of_ble_eq_true rfl) (hst := rfl) (fun b98r M99 n100 b98 => ?_)
              obtain ⟨T101, J102, rfl, R105, f106, f107⟩ := b98
              have I103 := I86.call J102 (tm_sub (by decide)) (Or.inl rfl)
              have t108 := J102.up t90
              have := (rv_c I86 J102 (I86.up h_o0) (k := 19) rfl)
              have := (rv_c I86 J102 (I86.up h_o0) (k := 22) rfl)
              have h110 : rv M82 o0 16 + 1 ≤ rv M82 o0 15 := (by have := R88.1 15 _ _ rfl; have := R88.1 16 _ _ rfl; have := R88.1 19 _ _ rfl; have := E91.f yS; omega)
              have E109 : rE M0 M99 o0 1 1 := E91.next f106 f107 (rv_c I86 J102 (I86.up h_o0) (k := 19) rfl) (rE_ha I86 J102 (I86.up h_o0) (by decide)) (e := 1) h110 (by decide)
              have q111 := J102.keep t90 (by decide) q95
              refine mv_aload_n d_TrustDeskModel_compares_77 rfl rfl ?_
              obtain ⟨_, b118, -⟩ := I103.1 _ _ t108
              refine mv_callV (kc' := 0) (ks' := 0) (As := []) (st9 := [.ref o0]) d_TrustDeskModel_compares_78 lV_TrustDeskModel_288 b118 rfl (tc_TrustDeskModel_sum_q1_x (d := d) (x9 := x9) (o0 := o0) t108 R105 E109.1 (by have := R105.1 15 _ _ rfl; have := R105.1 16 _ _ rfl; have := R105.1 19 _ _ rfl; have := E109.f yS; omega) (by have := R105.1 15 _ _ rfl; have := R105.1 16 _ _ rfl; have := R105.1 19 _ _ rfl; have := E109.f yS; omega) I103.start) rfl (Nat.le_of_ble_eq_true rfl) (Nat.le_of_ble_eq_true rfl) (Nat.le_of_ble_eq_true rfl) (hst := rfl) (fun b112r M113 n114 b112 => ?_)
              obtain ⟨T115, J116, rfl, R119, f120, f121⟩ := b112
              have I117 := I103.call J116 (tm_sub (by decide)) (Or.inl rfl)
              have t122 := J116.up t108
              have E123 : rE M0 M113 o0 2 1 := E109.trans f120 (by decide) (yR.2 5 _ _ rfl 44).1 (by decide) (by decide)
              have := f120.w
              refine mv_aload_n d_TrustDeskModel_compares_81 rfl rfl ?_
              refine mv_iload_n d_TrustDeskModel_compares_82 rfl rfl ?_
              obtain ⟨_, b130, -⟩ := I117.1 _ _ t122
              refine mv_callV (kc' := 0) (ks' := 0) (As := [.int 0]) (st9 := [.int 0, .ref o0]) d_TrustDeskModel_compares_83 lV_TrustDeskModel_279 b130 rfl (tc_TrustDeskModel_emits_x (d := (d + 7)) (x9 := x9) (o0 := o0) (x1 := 0) t122 R119 (by have := R119.1 15 _ _ rfl; have := R119.1 16 _ _ rfl; have := R119.1 19 _ _ rfl; have := E123.f yS; omega) (by decide) I117.start) rfl (Nat.le_of_ble_eq_true rfl) (Nat.le_of_ble_eq_true rfl) (Nat.le_of_ble_eq_true rfl) (hst := rfl) (fun b124r M125 n126 b124 => ?_)
              obtain ⟨T127, J128, rfl, R131, f132⟩ := b124
              have I129 := I117.call J128 (tm_sub (by decide)) (Or.inl rfl)
              have t133 := J128.up t122
              have := (rv_c I117 J128 (I117.up h_o0) (k := 16) rfl)
              have := (rv_c I117 J128 (I117.up h_o0) (k := 17) rfl)
              have := (rv_c I117 J128 (I117.up h_o0) (k := 19) rfl)
              have := (rv_c I117 J128 (I117.up h_o0) (k := 22) rfl)
              have E134 : rE M0 M125 o0 3 0 := E123.emit f132 (rE_hv I117 J128 (I117.up h_o0) 15 19 (by decide)) (yR.2 5 _ _ rfl 44).1 (by decide) (Or.inl ⟨by have := R119.1 15 _ _ rfl; have := R119.1 16 _ _ rfl; have := R119.1 19 _ _ rfl; have := E123.f yS; omega, by decide⟩) (by decide)
              exact mv_vret d_TrustDeskModel_compares_86 rfl ⟨_, I129, rfl, R131, E134.vac (by have := R131.1 15 _ _ rfl; have := R131.1 16 _ _ rfl; have := R131.1 19 _ _ rfl; have := E134.f yS; omega) 1 0, (by have := R131.1 15 _ _ rfl; have := R131.1 16 _ _ rfl; have := R131.1 19 _ _ rfl; have := E134.f yS; omega)⟩
          · refine mv_iconst (v := 1) d_TrustDeskModel_isSign_16 (by decide) ?_
            refine mv_goto (tgt := 21) d_TrustDeskModel_isSign_17 (by decide) ?_
            refine mv_iret d_TrustDeskModel_isSign_21 rfl (by decide) ?_
            refine mv_if_eq_f (tgt := 54) d_TrustDeskModel_compares_46 (by decide) (by decide) ?_
            refine mv_bipush (v := (-6)) d_TrustDeskModel_compares_49 (by decide) ?_
            refine mv_goto (tgt := 55) d_TrustDeskModel_compares_51 (by decide) ?_
            refine mv_istore_n (lv' := [(1, .int (-6)), (0, .ref o0)]) d_TrustDeskModel_compares_55 rfl (by decide) rfl ?_
            refine mv_iload_n d_TrustDeskModel_compares_56 rfl rfl ?_
            refine mv_if_ne_t (tgt := 65) d_TrustDeskModel_compares_57 (by decide) (by decide) ?_
            refine mv_aload_n d_TrustDeskModel_compares_65 rfl rfl ?_
            obtain ⟨_, b135, -⟩ := I6.1 _ _ t11
            refine mv_callV (kc1 := 0) (ks1 := 0) (kc' := 0) (ks' := 0) (As := []) (st9 := [.ref o0]) d_TrustDeskModel_compares_66 lV_TrustDeskModel_230 b135 rfl (mj_enter (by decide) (Nat.le_of_ble_eq_true rfl) ?_) rfl (Nat.le_of_ble_eq_true rfl) (Nat.le_of_ble_eq_true rfl) (Nat.le_of_ble_eq_true rfl) (hst := rfl) (fun _ _ _ h => h)
            refine mv_aload_n d_TrustDeskModel_isWell_0 rfl rfl ?_
            refine tr_getK (k := 19) q14 d_TrustDeskModel_isWell_1 f_TrustDeskModel_224_13 ?_
            have := mz_hi v15
            refine mv_if_neZ (tgt := 11) (a := v15.toInt) d_TrustDeskModel_isWell_4 (by decide) rfl (fun b136 => absurd b136 (by omega)) (fun b136 => ?_)
            refine mv_iconst (v := 1) d_TrustDeskModel_isWell_7 (by decide) ?_
            refine mv_goto (tgt := 12) d_TrustDeskModel_isWell_8 (by decide) ?_
            refine mv_iret d_TrustDeskModel_isWell_12 rfl (by decide) ?_
            refine mv_if_ne_t (tgt := 73) d_TrustDeskModel_compares_69 (by decide) (by decide) ?_
            refine mv_aload_n d_TrustDeskModel_compares_73 rfl rfl ?_
            obtain ⟨_, b143, -⟩ := I6.1 _ _ t11
            refine mv_callV (kc' := 0) (ks' := 0) (As := []) (st9 := [.ref o0]) d_TrustDeskModel_compares_74 lV_TrustDeskModel_237 b143 rfl (tc_TrustDeskModel_next_x (d := (d + 7)) (x9 := x9) (o0 := o0) t11 R8 I6.start) rfl (Nat.le_of_ble_eq_true rfl) (Nat.le_of_ble_eq_true rfl) (Nat.le_of_ble_eq_true rfl) (hst := rfl) (fun b137r M138 n139 b137 => ?_)
            obtain ⟨T140, J141, rfl, R144, f145, f146⟩ := b137
            have I142 := I6.call J141 (tm_sub (by decide)) (Or.inl rfl)
            have t147 := J141.up t11
            have := (rv_c I6 J141 (I6.up h_o0) (k := 19) rfl)
            have := (rv_c I6 J141 (I6.up h_o0) (k := 22) rfl)
            have h149 : rv M2 o0 16 + 1 ≤ rv M2 o0 15 := (by have := R8.1 15 _ _ rfl; have := R8.1 16 _ _ rfl; have := R8.1 19 _ _ rfl; have := E12.f yS; omega)
            have E148 : rE M0 M138 o0 1 1 := E12.next f145 f146 (rv_c I6 J141 (I6.up h_o0) (k := 19) rfl) (rE_ha I6 J141 (I6.up h_o0) (by decide)) (e := 1) h149 (by decide)
            have q150 := J141.keep t11 (by decide) q14
            refine mv_aload_n d_TrustDeskModel_compares_77 rfl rfl ?_
            obtain ⟨_, b157, -⟩ := I142.1 _ _ t147
            refine mv_callV (kc' := 0) (ks' := 0) (As := []) (st9 := [.ref o0]) d_TrustDeskModel_compares_78 lV_TrustDeskModel_288 b157 rfl (tc_TrustDeskModel_sum_q1_x (d := d) (x9 := x9) (o0 := o0) t147 R144 E148.1 (by have := R144.1 15 _ _ rfl; have := R144.1 16 _ _ rfl; have := R144.1 19 _ _ rfl; have := E148.f yS; omega) (by have := R144.1 15 _ _ rfl; have := R144.1 16 _ _ rfl; have := R144.1 19 _ _ rfl; have := E148.f yS; omega) I142.start) rfl (Nat.le_of_ble_eq_true rfl) (Nat.le_of_ble_eq_true rfl) (Nat.le_of_ble_eq_true rfl) (hst := rfl) (fun b151r M152 n153 b151 => ?_)
            obtain ⟨T154, J155, rfl, R158, f159, f160⟩ := b151
            have I156 := I142.call J155 (tm_sub (by decide)) (Or.inl rfl)
            have t161 := J155.up t147
            have E162 : rE M0 M152 o0 2 1 := E148.trans f159 (by decide) (yR.2 5 _ _ rfl 44).1 (by decide) (by decide)
            have := f159.w
            refine mv_aload_n d_TrustDeskModel_compares_81 rfl rfl ?_
            refine mv_iload_n d_TrustDeskModel_compares_82 rfl rfl ?_
            obtain ⟨_, b169, -⟩ := I156.1 _ _ t161
            refine mv_callV (kc' := 0) (ks' := 0) (As := [.int (-6)]) (st9 := [.int (-6), .ref o0]) d_TrustDeskModel_compares_83 lV_TrustDeskModel_279 b169 rfl (tc_TrustDeskModel_emits_x (d := (d + 7)) (x9 := x9) (o0 := o0) (x1 := (-6)) t161 R158 (by have := R158.1 15 _ _ rfl; have := R158.1 16 _ _ rfl; have := R158.1 19 _ _ rfl; have := E162.f yS; omega) (by decide) I156.start) rfl (Nat.le_of_ble_eq_true rfl) (Nat.le_of_ble_eq_true rfl) (Nat.le_of_ble_eq_true rfl) (hst := rfl) (fun b163r M164 n165 b163 => ?_)
            obtain ⟨T166, J167, rfl, R170, f171⟩ := b163
            have I168 := I156.call J167 (tm_sub (by decide)) (Or.inl rfl)
            have t172 := J167.up t161
            have := (rv_c I156 J167 (I156.up h_o0) (k := 16) rfl)
            have := (rv_c I156 J167 (I156.up h_o0) (k := 17) rfl)
            have := (rv_c I156 J167 (I156.up h_o0) (k := 19) rfl)
            have := (rv_c I156 J167 (I156.up h_o0) (k := 22) rfl)
            have E173 : rE M0 M164 o0 1 0 := E162.emit f171 (rE_hv I156 J167 (I156.up h_o0) 15 19 (by decide)) (yR.2 5 _ _ rfl 44).1 (by decide) (Or.inr (Or.inr ⟨by decide, by decide, by decide, by decide⟩)) (by decide)
            exact mv_vret d_TrustDeskModel_compares_86 rfl ⟨_, I168, rfl, R170, E173, (by have := R170.1 15 _ _ rfl; have := R170.1 16 _ _ rfl; have := R170.1 19 _ _ rfl; have := E173.f yS; omega)⟩
      · refine mv_aload_n d_TrustDeskModel_isSign_8 rfl rfl ?_
        obtain ⟨v175, q174⟩ := tm_atI I6 t11 (k := 18) rfl
        refine tr_getK q174 d_TrustDeskModel_isSign_9 f_TrustDeskModel_201_13 ?_
        have := R8.f (k := 18) q174 rfl
        have := tm_rv q174
        refine mv_iload_n d_TrustDeskModel_isSign_12 rfl rfl ?_
        have := mz_hi v175
        refine mv_icmp_neZ (tgt := 20) (a := v175.toInt) (b := 62) d_TrustDeskModel_isSign_13 (by decide) rfl (by decide) (fun b176 => ?_) (fun b176 => ?_)
        · refine mv_iconst (v := 0) d_TrustDeskModel_isSign_20 (by decide) ?_
          refine mv_iret d_TrustDeskModel_isSign_21 rfl (by decide) ?_
          refine mv_if_eq_t (tgt := 40) d_TrustDeskModel_compares_32 (by decide) (by decide) ?_
          refine mv_aload_n d_TrustDeskModel_compares_40 rfl rfl ?_
          refine mv_bipush (v := 61) d_TrustDeskModel_compares_41 (by decide) ?_
          obtain ⟨_, b177, -⟩ := I6.1 _ _ t11
          refine mv_callV (kc1 := 0) (ks1 := 0) (kc' := 0) (ks' := 0) (As := [.int 61]) (st9 := [.int 61, .ref o0]) d_TrustDeskModel_compares_43 lV_TrustDeskModel_234 b177 rfl (mj_enter (by decide) (Nat.le_of_ble_eq_true rfl) ?_) rfl (Nat.le_of_ble_eq_true rfl) (Nat.le_of_ble_eq_true rfl) (Nat.le_of_ble_eq_true rfl) (hst := rfl) (fun _ _ _ h => h)
          refine mv_aload_n d_TrustDeskModel_isSign_0 rfl rfl ?_
          refine tr_getK (k := 17) q18 d_TrustDeskModel_isSign_1 f_TrustDeskModel_198_13 ?_
          refine mv_iconst (v := 4) d_TrustDeskModel_isSign_4 (by decide) ?_
          have := mz_hi v19
          refine mv_icmp_neZ (tgt := 20) (a := v19.toInt) (b := 4) d_TrustDeskModel_isSign_5 (by decide) rfl (by decide) (fun b178 => absurd b178 (by omega)) (fun b178 => ?_)
          refine mv_aload_n d_TrustDeskModel_isSign_8 rfl rfl ?_
          refine tr_getK (k := 18) q174 d_TrustDeskModel_isSign_9 f_TrustDeskModel_201_13 ?_
          refine mv_iload_n d_TrustDeskModel_isSign_12 rfl rfl ?_
          have := mz_hi v175
          refine mv_icmp_neZ (tgt := 20) (a := v175.toInt) (b := 61) d_TrustDeskModel_isSign_13 (by decide) rfl (by decide) (fun b179 => ?_) (fun b179 => ?_)
          · refine mv_iconst (v := 0) d_TrustDeskModel_isSign_20 (by decide) ?_
            refine mv_iret d_TrustDeskModel_isSign_21 rfl (by decide) ?_
            refine mv_if_eq_t (tgt := 54) d_TrustDeskModel_compares_46 (by decide) (by decide) ?_
            refine mv_iconst (v := 0) d_TrustDeskModel_compares_54 (by decide) ?_
            refine mv_istore_n (lv' := [(1, .int 0), (0, .ref o0)]) d_TrustDeskModel_compares_55 rfl (by decide) rfl ?_
            refine mv_iload_n d_TrustDeskModel_compares_56 rfl rfl ?_
            refine mv_if_ne_f (tgt := 65) d_TrustDeskModel_compares_57 (by decide) (by decide) ?_
            refine mv_aload_n d_TrustDeskModel_compares_60 rfl rfl ?_
            refine mv_iconst (v := 1) d_TrustDeskModel_compares_61 (by decide) ?_
            obtain ⟨_, b186, -⟩ := I6.1 _ _ t11
            refine mv_callV (kc' := 0) (ks' := 0) (As := [.int 1]) (st9 := [.int 1, .ref o0]) d_TrustDeskModel_compares_62 lV_TrustDeskModel_240 b186 rfl (tc_TrustDeskModel_fails_x (d := (d + 8)) (x9 := x9) (o0 := o0) (x1 := 1) t11 R8 (by decide) I6.start) rfl (Nat.le_of_ble_eq_true rfl) (Nat.le_of_ble_eq_true rfl) (Nat.le_of_ble_eq_true rfl) (hst := rfl) (fun b180r M181 n182 b180 => ?_)
            obtain ⟨T183, J184, rfl, R187, f188⟩ := b180
            have I185 := I6.call J184 (tm_sub (by decide)) (Or.inl rfl)
            have t189 := J184.up t11
            have := (rv_c I6 J184 (I6.up h_o0) (k := 16) rfl)
            have := (rv_c I6 J184 (I6.up h_o0) (k := 17) rfl)
            have := (rv_c I6 J184 (I6.up h_o0) (k := 22) rfl)
            have E190 : rE M0 M181 o0 1 0 := E12.fails (rE_hv I6 J184 (I6.up h_o0) 15 18 (by decide)) (rE_ha I6 J184 (I6.up h_o0) (by decide)) f188 1 0
            have q191 := J184.keep t11 (by decide) q18
            have q192 := J184.keep t11 (by decide) q174
            refine mv_aload_n d_TrustDeskModel_compares_65 rfl rfl ?_
            obtain ⟨_, b193, -⟩ := I185.1 _ _ t189
            refine mv_callV (kc1 := 0) (ks1 := 0) (kc' := 0) (ks' := 0) (As := []) (st9 := [.ref o0]) d_TrustDeskModel_compares_66 lV_TrustDeskModel_230 b193 rfl (mj_enter (by decide) (Nat.le_of_ble_eq_true rfl) ?_) rfl (Nat.le_of_ble_eq_true rfl) (Nat.le_of_ble_eq_true rfl) (Nat.le_of_ble_eq_true rfl) (hst := rfl) (fun _ _ _ h => h)
            refine mv_aload_n d_TrustDeskModel_isWell_0 rfl rfl ?_
            obtain ⟨v195, q194⟩ := tm_atI I185 t189 (k := 19) rfl
            refine tr_getK q194 d_TrustDeskModel_isWell_1 f_TrustDeskModel_224_13 ?_
            have := R187.f (k := 19) q194 rfl
            have := tm_rv q194
            have := mz_hi v195
            refine mv_if_neZ (tgt := 11) (a := v195.toInt) d_TrustDeskModel_isWell_4 (by decide) rfl (fun b196 => ?_) (fun b196 => ?_)
            · refine mv_iconst (v := 0) d_TrustDeskModel_isWell_11 (by decide) ?_
              refine mv_iret d_TrustDeskModel_isWell_12 rfl (by decide) ?_
              refine mv_if_ne_f (tgt := 73) d_TrustDeskModel_compares_69 (by decide) (by decide) ?_
              exact mv_vret d_TrustDeskModel_compares_72 rfl ⟨_, I185, rfl, R187, E190, (by have := R187.1 15 _ _ rfl; have := R187.1 16 _ _ rfl; have := R187.1 19 _ _ rfl; have := E190.f yS; omega)⟩
            · refine mv_iconst (v := 1) d_TrustDeskModel_isWell_7 (by decide) ?_
              refine mv_goto (tgt := 12) d_TrustDeskModel_isWell_8 (by decide) ?_
              refine mv_iret d_TrustDeskModel_isWell_12 rfl (by decide) ?_
              refine mv_if_ne_t (tgt := 73) d_TrustDeskModel_compares_69 (by decide) (by decide) ?_
              refine mv_aload_n d_TrustDeskModel_compares_73 rfl rfl ?_
              obtain ⟨_, b203, -⟩ := I185.1 _ _ t189
              refine mv_callV (kc' := 0) (ks' := 0) (As := []) (st9 := [.ref o0]) d_TrustDeskModel_compares_74 lV_TrustDeskModel_237 b203 rfl (tc_TrustDeskModel_next_x (d := (d + 7)) (x9 := x9) (o0 := o0) t189 R187 I185.start) rfl (Nat.le_of_ble_eq_true rfl) (Nat.le_of_ble_eq_true rfl) (Nat.le_of_ble_eq_true rfl) (hst := rfl) (fun b197r M198 n199 b197 => ?_)
              obtain ⟨T200, J201, rfl, R204, f205, f206⟩ := b197
              have I202 := I185.call J201 (tm_sub (by decide)) (Or.inl rfl)
              have t207 := J201.up t189
              have := (rv_c I185 J201 (I185.up h_o0) (k := 19) rfl)
              have := (rv_c I185 J201 (I185.up h_o0) (k := 22) rfl)
              have h209 : rv M181 o0 16 + 1 ≤ rv M181 o0 15 := (by have := R187.1 15 _ _ rfl; have := R187.1 16 _ _ rfl; have := R187.1 19 _ _ rfl; have := E190.f yS; omega)
              have E208 : rE M0 M198 o0 1 1 := E190.next f205 f206 (rv_c I185 J201 (I185.up h_o0) (k := 19) rfl) (rE_ha I185 J201 (I185.up h_o0) (by decide)) (e := 1) h209 (by decide)
              have q210 := J201.keep t189 (by decide) q194
              refine mv_aload_n d_TrustDeskModel_compares_77 rfl rfl ?_
              obtain ⟨_, b217, -⟩ := I202.1 _ _ t207
              refine mv_callV (kc' := 0) (ks' := 0) (As := []) (st9 := [.ref o0]) d_TrustDeskModel_compares_78 lV_TrustDeskModel_288 b217 rfl (tc_TrustDeskModel_sum_q1_x (d := d) (x9 := x9) (o0 := o0) t207 R204 E208.1 (by have := R204.1 15 _ _ rfl; have := R204.1 16 _ _ rfl; have := R204.1 19 _ _ rfl; have := E208.f yS; omega) (by have := R204.1 15 _ _ rfl; have := R204.1 16 _ _ rfl; have := R204.1 19 _ _ rfl; have := E208.f yS; omega) I202.start) rfl (Nat.le_of_ble_eq_true rfl) (Nat.le_of_ble_eq_true rfl) (Nat.le_of_ble_eq_true rfl) (hst := rfl) (fun b211r M212 n213 b211 => ?_)
              obtain ⟨T214, J215, rfl, R218, f219, f220⟩ := b211
              have I216 := I202.call J215 (tm_sub (by decide)) (Or.inl rfl)
              have t221 := J215.up t207
              have E222 : rE M0 M212 o0 2 1 := E208.trans f219 (by decide) (yR.2 5 _ _ rfl 44).1 (by decide) (by decide)
              have := f219.w
              refine mv_aload_n d_TrustDeskModel_compares_81 rfl rfl ?_
              refine mv_iload_n d_TrustDeskModel_compares_82 rfl rfl ?_
              obtain ⟨_, b229, -⟩ := I216.1 _ _ t221
              refine mv_callV (kc' := 0) (ks' := 0) (As := [.int 0]) (st9 := [.int 0, .ref o0]) d_TrustDeskModel_compares_83 lV_TrustDeskModel_279 b229 rfl (tc_TrustDeskModel_emits_x (d := (d + 7)) (x9 := x9) (o0 := o0) (x1 := 0) t221 R218 (by have := R218.1 15 _ _ rfl; have := R218.1 16 _ _ rfl; have := R218.1 19 _ _ rfl; have := E222.f yS; omega) (by decide) I216.start) rfl (Nat.le_of_ble_eq_true rfl) (Nat.le_of_ble_eq_true rfl) (Nat.le_of_ble_eq_true rfl) (hst := rfl) (fun b223r M224 n225 b223 => ?_)
              obtain ⟨T226, J227, rfl, R230, f231⟩ := b223
              have I228 := I216.call J227 (tm_sub (by decide)) (Or.inl rfl)
              have t232 := J227.up t221
              have := (rv_c I216 J227 (I216.up h_o0) (k := 16) rfl)
              have := (rv_c I216 J227 (I216.up h_o0) (k := 17) rfl)
              have := (rv_c I216 J227 (I216.up h_o0) (k := 19) rfl)
              have := (rv_c I216 J227 (I216.up h_o0) (k := 22) rfl)
              have E233 : rE M0 M224 o0 3 0 := E222.emit f231 (rE_hv I216 J227 (I216.up h_o0) 15 19 (by decide)) (yR.2 5 _ _ rfl 44).1 (by decide) (Or.inl ⟨by have := R218.1 15 _ _ rfl; have := R218.1 16 _ _ rfl; have := R218.1 19 _ _ rfl; have := E222.f yS; omega, by decide⟩) (by decide)
              exact mv_vret d_TrustDeskModel_compares_86 rfl ⟨_, I228, rfl, R230, E233.vac (by have := R230.1 15 _ _ rfl; have := R230.1 16 _ _ rfl; have := R230.1 19 _ _ rfl; have := E233.f yS; omega) 1 0, (by have := R230.1 15 _ _ rfl; have := R230.1 16 _ _ rfl; have := R230.1 19 _ _ rfl; have := E233.f yS; omega)⟩
          · refine mv_iconst (v := 1) d_TrustDeskModel_isSign_16 (by decide) ?_
            refine mv_goto (tgt := 21) d_TrustDeskModel_isSign_17 (by decide) ?_
            refine mv_iret d_TrustDeskModel_isSign_21 rfl (by decide) ?_
            refine mv_if_eq_f (tgt := 54) d_TrustDeskModel_compares_46 (by decide) (by decide) ?_
            refine mv_bipush (v := (-6)) d_TrustDeskModel_compares_49 (by decide) ?_
            refine mv_goto (tgt := 55) d_TrustDeskModel_compares_51 (by decide) ?_
            refine mv_istore_n (lv' := [(1, .int (-6)), (0, .ref o0)]) d_TrustDeskModel_compares_55 rfl (by decide) rfl ?_
            refine mv_iload_n d_TrustDeskModel_compares_56 rfl rfl ?_
            refine mv_if_ne_t (tgt := 65) d_TrustDeskModel_compares_57 (by decide) (by decide) ?_
            refine mv_aload_n d_TrustDeskModel_compares_65 rfl rfl ?_
            obtain ⟨_, b234, -⟩ := I6.1 _ _ t11
            refine mv_callV (kc1 := 0) (ks1 := 0) (kc' := 0) (ks' := 0) (As := []) (st9 := [.ref o0]) d_TrustDeskModel_compares_66 lV_TrustDeskModel_230 b234 rfl (mj_enter (by decide) (Nat.le_of_ble_eq_true rfl) ?_) rfl (Nat.le_of_ble_eq_true rfl) (Nat.le_of_ble_eq_true rfl) (Nat.le_of_ble_eq_true rfl) (hst := rfl) (fun _ _ _ h => h)
            refine mv_aload_n d_TrustDeskModel_isWell_0 rfl rfl ?_
            refine tr_getK (k := 19) q14 d_TrustDeskModel_isWell_1 f_TrustDeskModel_224_13 ?_
            have := mz_hi v15
            refine mv_if_neZ (tgt := 11) (a := v15.toInt) d_TrustDeskModel_isWell_4 (by decide) rfl (fun b235 => absurd b235 (by omega)) (fun b235 => ?_)
            refine mv_iconst (v := 1) d_TrustDeskModel_isWell_7 (by decide) ?_
            refine mv_goto (tgt := 12) d_TrustDeskModel_isWell_8 (by decide) ?_
            refine mv_iret d_TrustDeskModel_isWell_12 rfl (by decide) ?_
            refine mv_if_ne_t (tgt := 73) d_TrustDeskModel_compares_69 (by decide) (by decide) ?_
            refine mv_aload_n d_TrustDeskModel_compares_73 rfl rfl ?_
            obtain ⟨_, b242, -⟩ := I6.1 _ _ t11
            refine mv_callV (kc' := 0) (ks' := 0) (As := []) (st9 := [.ref o0]) d_TrustDeskModel_compares_74 lV_TrustDeskModel_237 b242 rfl (tc_TrustDeskModel_next_x (d := (d + 7)) (x9 := x9) (o0 := o0) t11 R8 I6.start) rfl (Nat.le_of_ble_eq_true rfl) (Nat.le_of_ble_eq_true rfl) (Nat.le_of_ble_eq_true rfl) (hst := rfl) (fun b236r M237 n238 b236 => ?_)
            obtain ⟨T239, J240, rfl, R243, f244, f245⟩ := b236
            have I241 := I6.call J240 (tm_sub (by decide)) (Or.inl rfl)
            have t246 := J240.up t11
            have := (rv_c I6 J240 (I6.up h_o0) (k := 19) rfl)
            have := (rv_c I6 J240 (I6.up h_o0) (k := 22) rfl)
            have h248 : rv M2 o0 16 + 1 ≤ rv M2 o0 15 := (by have := R8.1 15 _ _ rfl; have := R8.1 16 _ _ rfl; have := R8.1 19 _ _ rfl; have := E12.f yS; omega)
            have E247 : rE M0 M237 o0 1 1 := E12.next f244 f245 (rv_c I6 J240 (I6.up h_o0) (k := 19) rfl) (rE_ha I6 J240 (I6.up h_o0) (by decide)) (e := 1) h248 (by decide)
            have q249 := J240.keep t11 (by decide) q14
            refine mv_aload_n d_TrustDeskModel_compares_77 rfl rfl ?_
            obtain ⟨_, b256, -⟩ := I241.1 _ _ t246
            refine mv_callV (kc' := 0) (ks' := 0) (As := []) (st9 := [.ref o0]) d_TrustDeskModel_compares_78 lV_TrustDeskModel_288 b256 rfl (tc_TrustDeskModel_sum_q1_x (d := d) (x9 := x9) (o0 := o0) t246 R243 E247.1 (by have := R243.1 15 _ _ rfl; have := R243.1 16 _ _ rfl; have := R243.1 19 _ _ rfl; have := E247.f yS; omega) (by have := R243.1 15 _ _ rfl; have := R243.1 16 _ _ rfl; have := R243.1 19 _ _ rfl; have := E247.f yS; omega) I241.start) rfl (Nat.le_of_ble_eq_true rfl) (Nat.le_of_ble_eq_true rfl) (Nat.le_of_ble_eq_true rfl) (hst := rfl) (fun b250r M251 n252 b250 => ?_)
            obtain ⟨T253, J254, rfl, R257, f258, f259⟩ := b250
            have I255 := I241.call J254 (tm_sub (by decide)) (Or.inl rfl)
            have t260 := J254.up t246
            have E261 : rE M0 M251 o0 2 1 := E247.trans f258 (by decide) (yR.2 5 _ _ rfl 44).1 (by decide) (by decide)
            have := f258.w
            refine mv_aload_n d_TrustDeskModel_compares_81 rfl rfl ?_
            refine mv_iload_n d_TrustDeskModel_compares_82 rfl rfl ?_
            obtain ⟨_, b268, -⟩ := I255.1 _ _ t260
            refine mv_callV (kc' := 0) (ks' := 0) (As := [.int (-6)]) (st9 := [.int (-6), .ref o0]) d_TrustDeskModel_compares_83 lV_TrustDeskModel_279 b268 rfl (tc_TrustDeskModel_emits_x (d := (d + 7)) (x9 := x9) (o0 := o0) (x1 := (-6)) t260 R257 (by have := R257.1 15 _ _ rfl; have := R257.1 16 _ _ rfl; have := R257.1 19 _ _ rfl; have := E261.f yS; omega) (by decide) I255.start) rfl (Nat.le_of_ble_eq_true rfl) (Nat.le_of_ble_eq_true rfl) (Nat.le_of_ble_eq_true rfl) (hst := rfl) (fun b262r M263 n264 b262 => ?_)
            obtain ⟨T265, J266, rfl, R269, f270⟩ := b262
            have I267 := I255.call J266 (tm_sub (by decide)) (Or.inl rfl)
            have t271 := J266.up t260
            have := (rv_c I255 J266 (I255.up h_o0) (k := 16) rfl)
            have := (rv_c I255 J266 (I255.up h_o0) (k := 17) rfl)
            have := (rv_c I255 J266 (I255.up h_o0) (k := 19) rfl)
            have := (rv_c I255 J266 (I255.up h_o0) (k := 22) rfl)
            have E272 : rE M0 M263 o0 1 0 := E261.emit f270 (rE_hv I255 J266 (I255.up h_o0) 15 19 (by decide)) (yR.2 5 _ _ rfl 44).1 (by decide) (Or.inr (Or.inr ⟨by decide, by decide, by decide, by decide⟩)) (by decide)
            exact mv_vret d_TrustDeskModel_compares_86 rfl ⟨_, I267, rfl, R269, E272, (by have := R269.1 15 _ _ rfl; have := R269.1 16 _ _ rfl; have := R269.1 19 _ _ rfl; have := E272.f yS; omega)⟩
        · refine mv_iconst (v := 1) d_TrustDeskModel_isSign_16 (by decide) ?_
          refine mv_goto (tgt := 21) d_TrustDeskModel_isSign_17 (by decide) ?_
          refine mv_iret d_TrustDeskModel_isSign_21 rfl (by decide) ?_
          refine mv_if_eq_f (tgt := 40) d_TrustDeskModel_compares_32 (by decide) (by decide) ?_
          refine mv_bipush (v := (-5)) d_TrustDeskModel_compares_35 (by decide) ?_
          refine mv_goto (tgt := 55) d_TrustDeskModel_compares_37 (by decide) ?_
          refine mv_istore_n (lv' := [(1, .int (-5)), (0, .ref o0)]) d_TrustDeskModel_compares_55 rfl (by decide) rfl ?_
          refine mv_iload_n d_TrustDeskModel_compares_56 rfl rfl ?_
          refine mv_if_ne_t (tgt := 65) d_TrustDeskModel_compares_57 (by decide) (by decide) ?_
          refine mv_aload_n d_TrustDeskModel_compares_65 rfl rfl ?_
          obtain ⟨_, b273, -⟩ := I6.1 _ _ t11
          refine mv_callV (kc1 := 0) (ks1 := 0) (kc' := 0) (ks' := 0) (As := []) (st9 := [.ref o0]) d_TrustDeskModel_compares_66 lV_TrustDeskModel_230 b273 rfl (mj_enter (by decide) (Nat.le_of_ble_eq_true rfl) ?_) rfl (Nat.le_of_ble_eq_true rfl) (Nat.le_of_ble_eq_true rfl) (Nat.le_of_ble_eq_true rfl) (hst := rfl) (fun _ _ _ h => h)
          refine mv_aload_n d_TrustDeskModel_isWell_0 rfl rfl ?_
          refine tr_getK (k := 19) q14 d_TrustDeskModel_isWell_1 f_TrustDeskModel_224_13 ?_
          have := mz_hi v15
          refine mv_if_neZ (tgt := 11) (a := v15.toInt) d_TrustDeskModel_isWell_4 (by decide) rfl (fun b274 => absurd b274 (by omega)) (fun b274 => ?_)
          refine mv_iconst (v := 1) d_TrustDeskModel_isWell_7 (by decide) ?_
          refine mv_goto (tgt := 12) d_TrustDeskModel_isWell_8 (by decide) ?_
          refine mv_iret d_TrustDeskModel_isWell_12 rfl (by decide) ?_
          refine mv_if_ne_t (tgt := 73) d_TrustDeskModel_compares_69 (by decide) (by decide) ?_
          refine mv_aload_n d_TrustDeskModel_compares_73 rfl rfl ?_
          obtain ⟨_, b281, -⟩ := I6.1 _ _ t11
          refine mv_callV (kc' := 0) (ks' := 0) (As := []) (st9 := [.ref o0]) d_TrustDeskModel_compares_74 lV_TrustDeskModel_237 b281 rfl (tc_TrustDeskModel_next_x (d := (d + 7)) (x9 := x9) (o0 := o0) t11 R8 I6.start) rfl (Nat.le_of_ble_eq_true rfl) (Nat.le_of_ble_eq_true rfl) (Nat.le_of_ble_eq_true rfl) (hst := rfl) (fun b275r M276 n277 b275 => ?_)
          obtain ⟨T278, J279, rfl, R282, f283, f284⟩ := b275
          have I280 := I6.call J279 (tm_sub (by decide)) (Or.inl rfl)
          have t285 := J279.up t11
          have := (rv_c I6 J279 (I6.up h_o0) (k := 19) rfl)
          have := (rv_c I6 J279 (I6.up h_o0) (k := 22) rfl)
          have h287 : rv M2 o0 16 + 1 ≤ rv M2 o0 15 := (by have := R8.1 15 _ _ rfl; have := R8.1 16 _ _ rfl; have := R8.1 19 _ _ rfl; have := E12.f yS; omega)
          have E286 : rE M0 M276 o0 1 1 := E12.next f283 f284 (rv_c I6 J279 (I6.up h_o0) (k := 19) rfl) (rE_ha I6 J279 (I6.up h_o0) (by decide)) (e := 1) h287 (by decide)
          have q288 := J279.keep t11 (by decide) q14
          refine mv_aload_n d_TrustDeskModel_compares_77 rfl rfl ?_
          obtain ⟨_, b295, -⟩ := I280.1 _ _ t285
          refine mv_callV (kc' := 0) (ks' := 0) (As := []) (st9 := [.ref o0]) d_TrustDeskModel_compares_78 lV_TrustDeskModel_288 b295 rfl (tc_TrustDeskModel_sum_q1_x (d := d) (x9 := x9) (o0 := o0) t285 R282 E286.1 (by have := R282.1 15 _ _ rfl; have := R282.1 16 _ _ rfl; have := R282.1 19 _ _ rfl; have := E286.f yS; omega) (by have := R282.1 15 _ _ rfl; have := R282.1 16 _ _ rfl; have := R282.1 19 _ _ rfl; have := E286.f yS; omega) I280.start) rfl (Nat.le_of_ble_eq_true rfl) (Nat.le_of_ble_eq_true rfl) (Nat.le_of_ble_eq_true rfl) (hst := rfl) (fun b289r M290 n291 b289 => ?_)
          obtain ⟨T292, J293, rfl, R296, f297, f298⟩ := b289
          have I294 := I280.call J293 (tm_sub (by decide)) (Or.inl rfl)
          have t299 := J293.up t285
          have E300 : rE M0 M290 o0 2 1 := E286.trans f297 (by decide) (yR.2 5 _ _ rfl 44).1 (by decide) (by decide)
          have := f297.w
          refine mv_aload_n d_TrustDeskModel_compares_81 rfl rfl ?_
          refine mv_iload_n d_TrustDeskModel_compares_82 rfl rfl ?_
          obtain ⟨_, b307, -⟩ := I294.1 _ _ t299
          refine mv_callV (kc' := 0) (ks' := 0) (As := [.int (-5)]) (st9 := [.int (-5), .ref o0]) d_TrustDeskModel_compares_83 lV_TrustDeskModel_279 b307 rfl (tc_TrustDeskModel_emits_x (d := (d + 7)) (x9 := x9) (o0 := o0) (x1 := (-5)) t299 R296 (by have := R296.1 15 _ _ rfl; have := R296.1 16 _ _ rfl; have := R296.1 19 _ _ rfl; have := E300.f yS; omega) (by decide) I294.start) rfl (Nat.le_of_ble_eq_true rfl) (Nat.le_of_ble_eq_true rfl) (Nat.le_of_ble_eq_true rfl) (hst := rfl) (fun b301r M302 n303 b301 => ?_)
          obtain ⟨T304, J305, rfl, R308, f309⟩ := b301
          have I306 := I294.call J305 (tm_sub (by decide)) (Or.inl rfl)
          have t310 := J305.up t299
          have := (rv_c I294 J305 (I294.up h_o0) (k := 16) rfl)
          have := (rv_c I294 J305 (I294.up h_o0) (k := 17) rfl)
          have := (rv_c I294 J305 (I294.up h_o0) (k := 19) rfl)
          have := (rv_c I294 J305 (I294.up h_o0) (k := 22) rfl)
          have E311 : rE M0 M302 o0 1 0 := E300.emit f309 (rE_hv I294 J305 (I294.up h_o0) 15 19 (by decide)) (yR.2 5 _ _ rfl 44).1 (by decide) (Or.inr (Or.inr ⟨by decide, by decide, by decide, by decide⟩)) (by decide)
          exact mv_vret d_TrustDeskModel_compares_86 rfl ⟨_, I306, rfl, R308, E311, (by have := R308.1 15 _ _ rfl; have := R308.1 16 _ _ rfl; have := R308.1 19 _ _ rfl; have := E311.f yS; omega)⟩
    · refine mv_aload_n d_TrustDeskModel_isSign_8 rfl rfl ?_
      obtain ⟨v313, q312⟩ := tm_atI I6 t11 (k := 18) rfl
      refine tr_getK q312 d_TrustDeskModel_isSign_9 f_TrustDeskModel_201_13 ?_
      have := R8.f (k := 18) q312 rfl
      have := tm_rv q312
      refine mv_iload_n d_TrustDeskModel_isSign_12 rfl rfl ?_
      have := mz_hi v313
      refine mv_icmp_neZ (tgt := 20) (a := v313.toInt) (b := 60) d_TrustDeskModel_isSign_13 (by decide) rfl (by decide) (fun b314 => ?_) (fun b314 => ?_)
      · refine mv_iconst (v := 0) d_TrustDeskModel_isSign_20 (by decide) ?_
        refine mv_iret d_TrustDeskModel_isSign_21 rfl (by decide) ?_
        refine mv_if_eq_t (tgt := 26) d_TrustDeskModel_compares_18 (by decide) (by decide) ?_
        refine mv_aload_n d_TrustDeskModel_compares_26 rfl rfl ?_
        refine mv_bipush (v := 62) d_TrustDeskModel_compares_27 (by decide) ?_
        obtain ⟨_, b315, -⟩ := I6.1 _ _ t11
        refine mv_callV (kc1 := 0) (ks1 := 0) (kc' := 0) (ks' := 0) (As := [.int 62]) (st9 := [.int 62, .ref o0]) d_TrustDeskModel_compares_29 lV_TrustDeskModel_234 b315 rfl (mj_enter (by decide) (Nat.le_of_ble_eq_true rfl) ?_) rfl (Nat.le_of_ble_eq_true rfl) (Nat.le_of_ble_eq_true rfl) (Nat.le_of_ble_eq_true rfl) (hst := rfl) (fun _ _ _ h => h)
        refine mv_aload_n d_TrustDeskModel_isSign_0 rfl rfl ?_
        refine tr_getK (k := 17) q18 d_TrustDeskModel_isSign_1 f_TrustDeskModel_198_13 ?_
        refine mv_iconst (v := 4) d_TrustDeskModel_isSign_4 (by decide) ?_
        have := mz_hi v19
        refine mv_icmp_neZ (tgt := 20) (a := v19.toInt) (b := 4) d_TrustDeskModel_isSign_5 (by decide) rfl (by decide) (fun b316 => absurd b316 (by omega)) (fun b316 => ?_)
        refine mv_aload_n d_TrustDeskModel_isSign_8 rfl rfl ?_
        refine tr_getK (k := 18) q312 d_TrustDeskModel_isSign_9 f_TrustDeskModel_201_13 ?_
        refine mv_iload_n d_TrustDeskModel_isSign_12 rfl rfl ?_
        have := mz_hi v313
        refine mv_icmp_neZ (tgt := 20) (a := v313.toInt) (b := 62) d_TrustDeskModel_isSign_13 (by decide) rfl (by decide) (fun b317 => ?_) (fun b317 => ?_)
        · refine mv_iconst (v := 0) d_TrustDeskModel_isSign_20 (by decide) ?_
          refine mv_iret d_TrustDeskModel_isSign_21 rfl (by decide) ?_
          refine mv_if_eq_t (tgt := 40) d_TrustDeskModel_compares_32 (by decide) (by decide) ?_
          refine mv_aload_n d_TrustDeskModel_compares_40 rfl rfl ?_
          refine mv_bipush (v := 61) d_TrustDeskModel_compares_41 (by decide) ?_
          obtain ⟨_, b318, -⟩ := I6.1 _ _ t11
          refine mv_callV (kc1 := 0) (ks1 := 0) (kc' := 0) (ks' := 0) (As := [.int 61]) (st9 := [.int 61, .ref o0]) d_TrustDeskModel_compares_43 lV_TrustDeskModel_234 b318 rfl (mj_enter (by decide) (Nat.le_of_ble_eq_true rfl) ?_) rfl (Nat.le_of_ble_eq_true rfl) (Nat.le_of_ble_eq_true rfl) (Nat.le_of_ble_eq_true rfl) (hst := rfl) (fun _ _ _ h => h)
          refine mv_aload_n d_TrustDeskModel_isSign_0 rfl rfl ?_
          refine tr_getK (k := 17) q18 d_TrustDeskModel_isSign_1 f_TrustDeskModel_198_13 ?_
          refine mv_iconst (v := 4) d_TrustDeskModel_isSign_4 (by decide) ?_
          have := mz_hi v19
          refine mv_icmp_neZ (tgt := 20) (a := v19.toInt) (b := 4) d_TrustDeskModel_isSign_5 (by decide) rfl (by decide) (fun b319 => absurd b319 (by omega)) (fun b319 => ?_)
          refine mv_aload_n d_TrustDeskModel_isSign_8 rfl rfl ?_
          refine tr_getK (k := 18) q312 d_TrustDeskModel_isSign_9 f_TrustDeskModel_201_13 ?_
          refine mv_iload_n d_TrustDeskModel_isSign_12 rfl rfl ?_
          have := mz_hi v313
          refine mv_icmp_neZ (tgt := 20) (a := v313.toInt) (b := 61) d_TrustDeskModel_isSign_13 (by decide) rfl (by decide) (fun b320 => ?_) (fun b320 => ?_)
          · refine mv_iconst (v := 0) d_TrustDeskModel_isSign_20 (by decide) ?_
            refine mv_iret d_TrustDeskModel_isSign_21 rfl (by decide) ?_
            refine mv_if_eq_t (tgt := 54) d_TrustDeskModel_compares_46 (by decide) (by decide) ?_
            refine mv_iconst (v := 0) d_TrustDeskModel_compares_54 (by decide) ?_
            refine mv_istore_n (lv' := [(1, .int 0), (0, .ref o0)]) d_TrustDeskModel_compares_55 rfl (by decide) rfl ?_
            refine mv_iload_n d_TrustDeskModel_compares_56 rfl rfl ?_
            refine mv_if_ne_f (tgt := 65) d_TrustDeskModel_compares_57 (by decide) (by decide) ?_
            refine mv_aload_n d_TrustDeskModel_compares_60 rfl rfl ?_
            refine mv_iconst (v := 1) d_TrustDeskModel_compares_61 (by decide) ?_
            obtain ⟨_, b327, -⟩ := I6.1 _ _ t11
            refine mv_callV (kc' := 0) (ks' := 0) (As := [.int 1]) (st9 := [.int 1, .ref o0]) d_TrustDeskModel_compares_62 lV_TrustDeskModel_240 b327 rfl (tc_TrustDeskModel_fails_x (d := (d + 8)) (x9 := x9) (o0 := o0) (x1 := 1) t11 R8 (by decide) I6.start) rfl (Nat.le_of_ble_eq_true rfl) (Nat.le_of_ble_eq_true rfl) (Nat.le_of_ble_eq_true rfl) (hst := rfl) (fun b321r M322 n323 b321 => ?_)
            obtain ⟨T324, J325, rfl, R328, f329⟩ := b321
            have I326 := I6.call J325 (tm_sub (by decide)) (Or.inl rfl)
            have t330 := J325.up t11
            have := (rv_c I6 J325 (I6.up h_o0) (k := 16) rfl)
            have := (rv_c I6 J325 (I6.up h_o0) (k := 17) rfl)
            have := (rv_c I6 J325 (I6.up h_o0) (k := 22) rfl)
            have E331 : rE M0 M322 o0 1 0 := E12.fails (rE_hv I6 J325 (I6.up h_o0) 15 18 (by decide)) (rE_ha I6 J325 (I6.up h_o0) (by decide)) f329 1 0
            have q332 := J325.keep t11 (by decide) q18
            have q333 := J325.keep t11 (by decide) q312
            refine mv_aload_n d_TrustDeskModel_compares_65 rfl rfl ?_
            obtain ⟨_, b334, -⟩ := I326.1 _ _ t330
            refine mv_callV (kc1 := 0) (ks1 := 0) (kc' := 0) (ks' := 0) (As := []) (st9 := [.ref o0]) d_TrustDeskModel_compares_66 lV_TrustDeskModel_230 b334 rfl (mj_enter (by decide) (Nat.le_of_ble_eq_true rfl) ?_) rfl (Nat.le_of_ble_eq_true rfl) (Nat.le_of_ble_eq_true rfl) (Nat.le_of_ble_eq_true rfl) (hst := rfl) (fun _ _ _ h => h)
            refine mv_aload_n d_TrustDeskModel_isWell_0 rfl rfl ?_
            obtain ⟨v336, q335⟩ := tm_atI I326 t330 (k := 19) rfl
            refine tr_getK q335 d_TrustDeskModel_isWell_1 f_TrustDeskModel_224_13 ?_
            have := R328.f (k := 19) q335 rfl
            have := tm_rv q335
            have := mz_hi v336
            refine mv_if_neZ (tgt := 11) (a := v336.toInt) d_TrustDeskModel_isWell_4 (by decide) rfl (fun b337 => ?_) (fun b337 => ?_)
            · refine mv_iconst (v := 0) d_TrustDeskModel_isWell_11 (by decide) ?_
              refine mv_iret d_TrustDeskModel_isWell_12 rfl (by decide) ?_
              refine mv_if_ne_f (tgt := 73) d_TrustDeskModel_compares_69 (by decide) (by decide) ?_
              exact mv_vret d_TrustDeskModel_compares_72 rfl ⟨_, I326, rfl, R328, E331, (by have := R328.1 15 _ _ rfl; have := R328.1 16 _ _ rfl; have := R328.1 19 _ _ rfl; have := E331.f yS; omega)⟩
            · refine mv_iconst (v := 1) d_TrustDeskModel_isWell_7 (by decide) ?_
              refine mv_goto (tgt := 12) d_TrustDeskModel_isWell_8 (by decide) ?_
              refine mv_iret d_TrustDeskModel_isWell_12 rfl (by decide) ?_
              refine mv_if_ne_t (tgt := 73) d_TrustDeskModel_compares_69 (by decide) (by decide) ?_
              refine mv_aload_n d_TrustDeskModel_compares_73 rfl rfl ?_
              obtain ⟨_, b344, -⟩ := I326.1 _ _ t330
              refine mv_callV (kc' := 0) (ks' := 0) (As := []) (st9 := [.ref o0]) d_TrustDeskModel_compares_74 lV_TrustDeskModel_237 b344 rfl (tc_TrustDeskModel_next_x (d := (d + 7)) (x9 := x9) (o0 := o0) t330 R328 I326.start) rfl (Nat.le_of_ble_eq_true rfl) (Nat.le_of_ble_eq_true rfl) (Nat.le_of_ble_eq_true rfl) (hst := rfl) (fun b338r M339 n340 b338 => ?_)
              obtain ⟨T341, J342, rfl, R345, f346, f347⟩ := b338
              have I343 := I326.call J342 (tm_sub (by decide)) (Or.inl rfl)
              have t348 := J342.up t330
              have := (rv_c I326 J342 (I326.up h_o0) (k := 19) rfl)
              have := (rv_c I326 J342 (I326.up h_o0) (k := 22) rfl)
              have h350 : rv M322 o0 16 + 1 ≤ rv M322 o0 15 := (by have := R328.1 15 _ _ rfl; have := R328.1 16 _ _ rfl; have := R328.1 19 _ _ rfl; have := E331.f yS; omega)
              have E349 : rE M0 M339 o0 1 1 := E331.next f346 f347 (rv_c I326 J342 (I326.up h_o0) (k := 19) rfl) (rE_ha I326 J342 (I326.up h_o0) (by decide)) (e := 1) h350 (by decide)
              have q351 := J342.keep t330 (by decide) q335
              refine mv_aload_n d_TrustDeskModel_compares_77 rfl rfl ?_
              obtain ⟨_, b358, -⟩ := I343.1 _ _ t348
              refine mv_callV (kc' := 0) (ks' := 0) (As := []) (st9 := [.ref o0]) d_TrustDeskModel_compares_78 lV_TrustDeskModel_288 b358 rfl (tc_TrustDeskModel_sum_q1_x (d := d) (x9 := x9) (o0 := o0) t348 R345 E349.1 (by have := R345.1 15 _ _ rfl; have := R345.1 16 _ _ rfl; have := R345.1 19 _ _ rfl; have := E349.f yS; omega) (by have := R345.1 15 _ _ rfl; have := R345.1 16 _ _ rfl; have := R345.1 19 _ _ rfl; have := E349.f yS; omega) I343.start) rfl (Nat.le_of_ble_eq_true rfl) (Nat.le_of_ble_eq_true rfl) (Nat.le_of_ble_eq_true rfl) (hst := rfl) (fun b352r M353 n354 b352 => ?_)
              obtain ⟨T355, J356, rfl, R359, f360, f361⟩ := b352
              have I357 := I343.call J356 (tm_sub (by decide)) (Or.inl rfl)
              have t362 := J356.up t348
              have E363 : rE M0 M353 o0 2 1 := E349.trans f360 (by decide) (yR.2 5 _ _ rfl 44).1 (by decide) (by decide)
              have := f360.w
              refine mv_aload_n d_TrustDeskModel_compares_81 rfl rfl ?_
              refine mv_iload_n d_TrustDeskModel_compares_82 rfl rfl ?_
              obtain ⟨_, b370, -⟩ := I357.1 _ _ t362
              refine mv_callV (kc' := 0) (ks' := 0) (As := [.int 0]) (st9 := [.int 0, .ref o0]) d_TrustDeskModel_compares_83 lV_TrustDeskModel_279 b370 rfl (tc_TrustDeskModel_emits_x (d := (d + 7)) (x9 := x9) (o0 := o0) (x1 := 0) t362 R359 (by have := R359.1 15 _ _ rfl; have := R359.1 16 _ _ rfl; have := R359.1 19 _ _ rfl; have := E363.f yS; omega) (by decide) I357.start) rfl (Nat.le_of_ble_eq_true rfl) (Nat.le_of_ble_eq_true rfl) (Nat.le_of_ble_eq_true rfl) (hst := rfl) (fun b364r M365 n366 b364 => ?_)
              obtain ⟨T367, J368, rfl, R371, f372⟩ := b364
              have I369 := I357.call J368 (tm_sub (by decide)) (Or.inl rfl)
              have t373 := J368.up t362
              have := (rv_c I357 J368 (I357.up h_o0) (k := 16) rfl)
              have := (rv_c I357 J368 (I357.up h_o0) (k := 17) rfl)
              have := (rv_c I357 J368 (I357.up h_o0) (k := 19) rfl)
              have := (rv_c I357 J368 (I357.up h_o0) (k := 22) rfl)
              have E374 : rE M0 M365 o0 3 0 := E363.emit f372 (rE_hv I357 J368 (I357.up h_o0) 15 19 (by decide)) (yR.2 5 _ _ rfl 44).1 (by decide) (Or.inl ⟨by have := R359.1 15 _ _ rfl; have := R359.1 16 _ _ rfl; have := R359.1 19 _ _ rfl; have := E363.f yS; omega, by decide⟩) (by decide)
              exact mv_vret d_TrustDeskModel_compares_86 rfl ⟨_, I369, rfl, R371, E374.vac (by have := R371.1 15 _ _ rfl; have := R371.1 16 _ _ rfl; have := R371.1 19 _ _ rfl; have := E374.f yS; omega) 1 0, (by have := R371.1 15 _ _ rfl; have := R371.1 16 _ _ rfl; have := R371.1 19 _ _ rfl; have := E374.f yS; omega)⟩
          · refine mv_iconst (v := 1) d_TrustDeskModel_isSign_16 (by decide) ?_
            refine mv_goto (tgt := 21) d_TrustDeskModel_isSign_17 (by decide) ?_
            refine mv_iret d_TrustDeskModel_isSign_21 rfl (by decide) ?_
            refine mv_if_eq_f (tgt := 54) d_TrustDeskModel_compares_46 (by decide) (by decide) ?_
            refine mv_bipush (v := (-6)) d_TrustDeskModel_compares_49 (by decide) ?_
            refine mv_goto (tgt := 55) d_TrustDeskModel_compares_51 (by decide) ?_
            refine mv_istore_n (lv' := [(1, .int (-6)), (0, .ref o0)]) d_TrustDeskModel_compares_55 rfl (by decide) rfl ?_
            refine mv_iload_n d_TrustDeskModel_compares_56 rfl rfl ?_
            refine mv_if_ne_t (tgt := 65) d_TrustDeskModel_compares_57 (by decide) (by decide) ?_
            refine mv_aload_n d_TrustDeskModel_compares_65 rfl rfl ?_
            obtain ⟨_, b375, -⟩ := I6.1 _ _ t11
            refine mv_callV (kc1 := 0) (ks1 := 0) (kc' := 0) (ks' := 0) (As := []) (st9 := [.ref o0]) d_TrustDeskModel_compares_66 lV_TrustDeskModel_230 b375 rfl (mj_enter (by decide) (Nat.le_of_ble_eq_true rfl) ?_) rfl (Nat.le_of_ble_eq_true rfl) (Nat.le_of_ble_eq_true rfl) (Nat.le_of_ble_eq_true rfl) (hst := rfl) (fun _ _ _ h => h)
            refine mv_aload_n d_TrustDeskModel_isWell_0 rfl rfl ?_
            refine tr_getK (k := 19) q14 d_TrustDeskModel_isWell_1 f_TrustDeskModel_224_13 ?_
            have := mz_hi v15
            refine mv_if_neZ (tgt := 11) (a := v15.toInt) d_TrustDeskModel_isWell_4 (by decide) rfl (fun b376 => absurd b376 (by omega)) (fun b376 => ?_)
            refine mv_iconst (v := 1) d_TrustDeskModel_isWell_7 (by decide) ?_
            refine mv_goto (tgt := 12) d_TrustDeskModel_isWell_8 (by decide) ?_
            refine mv_iret d_TrustDeskModel_isWell_12 rfl (by decide) ?_
            refine mv_if_ne_t (tgt := 73) d_TrustDeskModel_compares_69 (by decide) (by decide) ?_
            refine mv_aload_n d_TrustDeskModel_compares_73 rfl rfl ?_
            obtain ⟨_, b383, -⟩ := I6.1 _ _ t11
            refine mv_callV (kc' := 0) (ks' := 0) (As := []) (st9 := [.ref o0]) d_TrustDeskModel_compares_74 lV_TrustDeskModel_237 b383 rfl (tc_TrustDeskModel_next_x (d := (d + 7)) (x9 := x9) (o0 := o0) t11 R8 I6.start) rfl (Nat.le_of_ble_eq_true rfl) (Nat.le_of_ble_eq_true rfl) (Nat.le_of_ble_eq_true rfl) (hst := rfl) (fun b377r M378 n379 b377 => ?_)
            obtain ⟨T380, J381, rfl, R384, f385, f386⟩ := b377
            have I382 := I6.call J381 (tm_sub (by decide)) (Or.inl rfl)
            have t387 := J381.up t11
            have := (rv_c I6 J381 (I6.up h_o0) (k := 19) rfl)
            have := (rv_c I6 J381 (I6.up h_o0) (k := 22) rfl)
            have h389 : rv M2 o0 16 + 1 ≤ rv M2 o0 15 := (by have := R8.1 15 _ _ rfl; have := R8.1 16 _ _ rfl; have := R8.1 19 _ _ rfl; have := E12.f yS; omega)
            have E388 : rE M0 M378 o0 1 1 := E12.next f385 f386 (rv_c I6 J381 (I6.up h_o0) (k := 19) rfl) (rE_ha I6 J381 (I6.up h_o0) (by decide)) (e := 1) h389 (by decide)
            have q390 := J381.keep t11 (by decide) q14
            refine mv_aload_n d_TrustDeskModel_compares_77 rfl rfl ?_
            obtain ⟨_, b397, -⟩ := I382.1 _ _ t387
            refine mv_callV (kc' := 0) (ks' := 0) (As := []) (st9 := [.ref o0]) d_TrustDeskModel_compares_78 lV_TrustDeskModel_288 b397 rfl (tc_TrustDeskModel_sum_q1_x (d := d) (x9 := x9) (o0 := o0) t387 R384 E388.1 (by have := R384.1 15 _ _ rfl; have := R384.1 16 _ _ rfl; have := R384.1 19 _ _ rfl; have := E388.f yS; omega) (by have := R384.1 15 _ _ rfl; have := R384.1 16 _ _ rfl; have := R384.1 19 _ _ rfl; have := E388.f yS; omega) I382.start) rfl (Nat.le_of_ble_eq_true rfl) (Nat.le_of_ble_eq_true rfl) (Nat.le_of_ble_eq_true rfl) (hst := rfl) (fun b391r M392 n393 b391 => ?_)
            obtain ⟨T394, J395, rfl, R398, f399, f400⟩ := b391
            have I396 := I382.call J395 (tm_sub (by decide)) (Or.inl rfl)
            have t401 := J395.up t387
            have E402 : rE M0 M392 o0 2 1 := E388.trans f399 (by decide) (yR.2 5 _ _ rfl 44).1 (by decide) (by decide)
            have := f399.w
            refine mv_aload_n d_TrustDeskModel_compares_81 rfl rfl ?_
            refine mv_iload_n d_TrustDeskModel_compares_82 rfl rfl ?_
            obtain ⟨_, b409, -⟩ := I396.1 _ _ t401
            refine mv_callV (kc' := 0) (ks' := 0) (As := [.int (-6)]) (st9 := [.int (-6), .ref o0]) d_TrustDeskModel_compares_83 lV_TrustDeskModel_279 b409 rfl (tc_TrustDeskModel_emits_x (d := (d + 7)) (x9 := x9) (o0 := o0) (x1 := (-6)) t401 R398 (by have := R398.1 15 _ _ rfl; have := R398.1 16 _ _ rfl; have := R398.1 19 _ _ rfl; have := E402.f yS; omega) (by decide) I396.start) rfl (Nat.le_of_ble_eq_true rfl) (Nat.le_of_ble_eq_true rfl) (Nat.le_of_ble_eq_true rfl) (hst := rfl) (fun b403r M404 n405 b403 => ?_)
            obtain ⟨T406, J407, rfl, R410, f411⟩ := b403
            have I408 := I396.call J407 (tm_sub (by decide)) (Or.inl rfl)
            have t412 := J407.up t401
            have := (rv_c I396 J407 (I396.up h_o0) (k := 16) rfl)
            have := (rv_c I396 J407 (I396.up h_o0) (k := 17) rfl)
            have := (rv_c I396 J407 (I396.up h_o0) (k := 19) rfl)
            have := (rv_c I396 J407 (I396.up h_o0) (k := 22) rfl)
            have E413 : rE M0 M404 o0 1 0 := E402.emit f411 (rE_hv I396 J407 (I396.up h_o0) 15 19 (by decide)) (yR.2 5 _ _ rfl 44).1 (by decide) (Or.inr (Or.inr ⟨by decide, by decide, by decide, by decide⟩)) (by decide)
            exact mv_vret d_TrustDeskModel_compares_86 rfl ⟨_, I408, rfl, R410, E413, (by have := R410.1 15 _ _ rfl; have := R410.1 16 _ _ rfl; have := R410.1 19 _ _ rfl; have := E413.f yS; omega)⟩
        · refine mv_iconst (v := 1) d_TrustDeskModel_isSign_16 (by decide) ?_
          refine mv_goto (tgt := 21) d_TrustDeskModel_isSign_17 (by decide) ?_
          refine mv_iret d_TrustDeskModel_isSign_21 rfl (by decide) ?_
          refine mv_if_eq_f (tgt := 40) d_TrustDeskModel_compares_32 (by decide) (by decide) ?_
          refine mv_bipush (v := (-5)) d_TrustDeskModel_compares_35 (by decide) ?_
          refine mv_goto (tgt := 55) d_TrustDeskModel_compares_37 (by decide) ?_
          refine mv_istore_n (lv' := [(1, .int (-5)), (0, .ref o0)]) d_TrustDeskModel_compares_55 rfl (by decide) rfl ?_
          refine mv_iload_n d_TrustDeskModel_compares_56 rfl rfl ?_
          refine mv_if_ne_t (tgt := 65) d_TrustDeskModel_compares_57 (by decide) (by decide) ?_
          refine mv_aload_n d_TrustDeskModel_compares_65 rfl rfl ?_
          obtain ⟨_, b414, -⟩ := I6.1 _ _ t11
          refine mv_callV (kc1 := 0) (ks1 := 0) (kc' := 0) (ks' := 0) (As := []) (st9 := [.ref o0]) d_TrustDeskModel_compares_66 lV_TrustDeskModel_230 b414 rfl (mj_enter (by decide) (Nat.le_of_ble_eq_true rfl) ?_) rfl (Nat.le_of_ble_eq_true rfl) (Nat.le_of_ble_eq_true rfl) (Nat.le_of_ble_eq_true rfl) (hst := rfl) (fun _ _ _ h => h)
          refine mv_aload_n d_TrustDeskModel_isWell_0 rfl rfl ?_
          refine tr_getK (k := 19) q14 d_TrustDeskModel_isWell_1 f_TrustDeskModel_224_13 ?_
          have := mz_hi v15
          refine mv_if_neZ (tgt := 11) (a := v15.toInt) d_TrustDeskModel_isWell_4 (by decide) rfl (fun b415 => absurd b415 (by omega)) (fun b415 => ?_)
          refine mv_iconst (v := 1) d_TrustDeskModel_isWell_7 (by decide) ?_
          refine mv_goto (tgt := 12) d_TrustDeskModel_isWell_8 (by decide) ?_
          refine mv_iret d_TrustDeskModel_isWell_12 rfl (by decide) ?_
          refine mv_if_ne_t (tgt := 73) d_TrustDeskModel_compares_69 (by decide) (by decide) ?_
          refine mv_aload_n d_TrustDeskModel_compares_73 rfl rfl ?_
          obtain ⟨_, b422, -⟩ := I6.1 _ _ t11
          refine mv_callV (kc' := 0) (ks' := 0) (As := []) (st9 := [.ref o0]) d_TrustDeskModel_compares_74 lV_TrustDeskModel_237 b422 rfl (tc_TrustDeskModel_next_x (d := (d + 7)) (x9 := x9) (o0 := o0) t11 R8 I6.start) rfl (Nat.le_of_ble_eq_true rfl) (Nat.le_of_ble_eq_true rfl) (Nat.le_of_ble_eq_true rfl) (hst := rfl) (fun b416r M417 n418 b416 => ?_)
          obtain ⟨T419, J420, rfl, R423, f424, f425⟩ := b416
          have I421 := I6.call J420 (tm_sub (by decide)) (Or.inl rfl)
          have t426 := J420.up t11
          have := (rv_c I6 J420 (I6.up h_o0) (k := 19) rfl)
          have := (rv_c I6 J420 (I6.up h_o0) (k := 22) rfl)
          have h428 : rv M2 o0 16 + 1 ≤ rv M2 o0 15 := (by have := R8.1 15 _ _ rfl; have := R8.1 16 _ _ rfl; have := R8.1 19 _ _ rfl; have := E12.f yS; omega)
          have E427 : rE M0 M417 o0 1 1 := E12.next f424 f425 (rv_c I6 J420 (I6.up h_o0) (k := 19) rfl) (rE_ha I6 J420 (I6.up h_o0) (by decide)) (e := 1) h428 (by decide)
          have q429 := J420.keep t11 (by decide) q14
          refine mv_aload_n d_TrustDeskModel_compares_77 rfl rfl ?_
          obtain ⟨_, b436, -⟩ := I421.1 _ _ t426
          refine mv_callV (kc' := 0) (ks' := 0) (As := []) (st9 := [.ref o0]) d_TrustDeskModel_compares_78 lV_TrustDeskModel_288 b436 rfl (tc_TrustDeskModel_sum_q1_x (d := d) (x9 := x9) (o0 := o0) t426 R423 E427.1 (by have := R423.1 15 _ _ rfl; have := R423.1 16 _ _ rfl; have := R423.1 19 _ _ rfl; have := E427.f yS; omega) (by have := R423.1 15 _ _ rfl; have := R423.1 16 _ _ rfl; have := R423.1 19 _ _ rfl; have := E427.f yS; omega) I421.start) rfl (Nat.le_of_ble_eq_true rfl) (Nat.le_of_ble_eq_true rfl) (Nat.le_of_ble_eq_true rfl) (hst := rfl) (fun b430r M431 n432 b430 => ?_)
          obtain ⟨T433, J434, rfl, R437, f438, f439⟩ := b430
          have I435 := I421.call J434 (tm_sub (by decide)) (Or.inl rfl)
          have t440 := J434.up t426
          have E441 : rE M0 M431 o0 2 1 := E427.trans f438 (by decide) (yR.2 5 _ _ rfl 44).1 (by decide) (by decide)
          have := f438.w
          refine mv_aload_n d_TrustDeskModel_compares_81 rfl rfl ?_
          refine mv_iload_n d_TrustDeskModel_compares_82 rfl rfl ?_
          obtain ⟨_, b448, -⟩ := I435.1 _ _ t440
          refine mv_callV (kc' := 0) (ks' := 0) (As := [.int (-5)]) (st9 := [.int (-5), .ref o0]) d_TrustDeskModel_compares_83 lV_TrustDeskModel_279 b448 rfl (tc_TrustDeskModel_emits_x (d := (d + 7)) (x9 := x9) (o0 := o0) (x1 := (-5)) t440 R437 (by have := R437.1 15 _ _ rfl; have := R437.1 16 _ _ rfl; have := R437.1 19 _ _ rfl; have := E441.f yS; omega) (by decide) I435.start) rfl (Nat.le_of_ble_eq_true rfl) (Nat.le_of_ble_eq_true rfl) (Nat.le_of_ble_eq_true rfl) (hst := rfl) (fun b442r M443 n444 b442 => ?_)
          obtain ⟨T445, J446, rfl, R449, f450⟩ := b442
          have I447 := I435.call J446 (tm_sub (by decide)) (Or.inl rfl)
          have t451 := J446.up t440
          have := (rv_c I435 J446 (I435.up h_o0) (k := 16) rfl)
          have := (rv_c I435 J446 (I435.up h_o0) (k := 17) rfl)
          have := (rv_c I435 J446 (I435.up h_o0) (k := 19) rfl)
          have := (rv_c I435 J446 (I435.up h_o0) (k := 22) rfl)
          have E452 : rE M0 M443 o0 1 0 := E441.emit f450 (rE_hv I435 J446 (I435.up h_o0) 15 19 (by decide)) (yR.2 5 _ _ rfl 44).1 (by decide) (Or.inr (Or.inr ⟨by decide, by decide, by decide, by decide⟩)) (by decide)
          exact mv_vret d_TrustDeskModel_compares_86 rfl ⟨_, I447, rfl, R449, E452, (by have := R449.1 15 _ _ rfl; have := R449.1 16 _ _ rfl; have := R449.1 19 _ _ rfl; have := E452.f yS; omega)⟩
      · refine mv_iconst (v := 1) d_TrustDeskModel_isSign_16 (by decide) ?_
        refine mv_goto (tgt := 21) d_TrustDeskModel_isSign_17 (by decide) ?_
        refine mv_iret d_TrustDeskModel_isSign_21 rfl (by decide) ?_
        refine mv_if_eq_f (tgt := 26) d_TrustDeskModel_compares_18 (by decide) (by decide) ?_
        refine mv_bipush (v := (-4)) d_TrustDeskModel_compares_21 (by decide) ?_
        refine mv_goto (tgt := 55) d_TrustDeskModel_compares_23 (by decide) ?_
        refine mv_istore_n (lv' := [(1, .int (-4)), (0, .ref o0)]) d_TrustDeskModel_compares_55 rfl (by decide) rfl ?_
        refine mv_iload_n d_TrustDeskModel_compares_56 rfl rfl ?_
        refine mv_if_ne_t (tgt := 65) d_TrustDeskModel_compares_57 (by decide) (by decide) ?_
        refine mv_aload_n d_TrustDeskModel_compares_65 rfl rfl ?_
        obtain ⟨_, b453, -⟩ := I6.1 _ _ t11
        refine mv_callV (kc1 := 0) (ks1 := 0) (kc' := 0) (ks' := 0) (As := []) (st9 := [.ref o0]) d_TrustDeskModel_compares_66 lV_TrustDeskModel_230 b453 rfl (mj_enter (by decide) (Nat.le_of_ble_eq_true rfl) ?_) rfl (Nat.le_of_ble_eq_true rfl) (Nat.le_of_ble_eq_true rfl) (Nat.le_of_ble_eq_true rfl) (hst := rfl) (fun _ _ _ h => h)
        refine mv_aload_n d_TrustDeskModel_isWell_0 rfl rfl ?_
        refine tr_getK (k := 19) q14 d_TrustDeskModel_isWell_1 f_TrustDeskModel_224_13 ?_
        have := mz_hi v15
        refine mv_if_neZ (tgt := 11) (a := v15.toInt) d_TrustDeskModel_isWell_4 (by decide) rfl (fun b454 => absurd b454 (by omega)) (fun b454 => ?_)
        refine mv_iconst (v := 1) d_TrustDeskModel_isWell_7 (by decide) ?_
        refine mv_goto (tgt := 12) d_TrustDeskModel_isWell_8 (by decide) ?_
        refine mv_iret d_TrustDeskModel_isWell_12 rfl (by decide) ?_
        refine mv_if_ne_t (tgt := 73) d_TrustDeskModel_compares_69 (by decide) (by decide) ?_
        refine mv_aload_n d_TrustDeskModel_compares_73 rfl rfl ?_
        obtain ⟨_, b461, -⟩ := I6.1 _ _ t11
        refine mv_callV (kc' := 0) (ks' := 0) (As := []) (st9 := [.ref o0]) d_TrustDeskModel_compares_74 lV_TrustDeskModel_237 b461 rfl (tc_TrustDeskModel_next_x (d := (d + 7)) (x9 := x9) (o0 := o0) t11 R8 I6.start) rfl (Nat.le_of_ble_eq_true rfl) (Nat.le_of_ble_eq_true rfl) (Nat.le_of_ble_eq_true rfl) (hst := rfl) (fun b455r M456 n457 b455 => ?_)
        obtain ⟨T458, J459, rfl, R462, f463, f464⟩ := b455
        have I460 := I6.call J459 (tm_sub (by decide)) (Or.inl rfl)
        have t465 := J459.up t11
        have := (rv_c I6 J459 (I6.up h_o0) (k := 19) rfl)
        have := (rv_c I6 J459 (I6.up h_o0) (k := 22) rfl)
        have h467 : rv M2 o0 16 + 1 ≤ rv M2 o0 15 := (by have := R8.1 15 _ _ rfl; have := R8.1 16 _ _ rfl; have := R8.1 19 _ _ rfl; have := E12.f yS; omega)
        have E466 : rE M0 M456 o0 1 1 := E12.next f463 f464 (rv_c I6 J459 (I6.up h_o0) (k := 19) rfl) (rE_ha I6 J459 (I6.up h_o0) (by decide)) (e := 1) h467 (by decide)
        have q468 := J459.keep t11 (by decide) q14
        refine mv_aload_n d_TrustDeskModel_compares_77 rfl rfl ?_
        obtain ⟨_, b475, -⟩ := I460.1 _ _ t465
        refine mv_callV (kc' := 0) (ks' := 0) (As := []) (st9 := [.ref o0]) d_TrustDeskModel_compares_78 lV_TrustDeskModel_288 b475 rfl (tc_TrustDeskModel_sum_q1_x (d := d) (x9 := x9) (o0 := o0) t465 R462 E466.1 (by have := R462.1 15 _ _ rfl; have := R462.1 16 _ _ rfl; have := R462.1 19 _ _ rfl; have := E466.f yS; omega) (by have := R462.1 15 _ _ rfl; have := R462.1 16 _ _ rfl; have := R462.1 19 _ _ rfl; have := E466.f yS; omega) I460.start) rfl (Nat.le_of_ble_eq_true rfl) (Nat.le_of_ble_eq_true rfl) (Nat.le_of_ble_eq_true rfl) (hst := rfl) (fun b469r M470 n471 b469 => ?_)
        obtain ⟨T472, J473, rfl, R476, f477, f478⟩ := b469
        have I474 := I460.call J473 (tm_sub (by decide)) (Or.inl rfl)
        have t479 := J473.up t465
        have E480 : rE M0 M470 o0 2 1 := E466.trans f477 (by decide) (yR.2 5 _ _ rfl 44).1 (by decide) (by decide)
        have := f477.w
        refine mv_aload_n d_TrustDeskModel_compares_81 rfl rfl ?_
        refine mv_iload_n d_TrustDeskModel_compares_82 rfl rfl ?_
        obtain ⟨_, b487, -⟩ := I474.1 _ _ t479
        refine mv_callV (kc' := 0) (ks' := 0) (As := [.int (-4)]) (st9 := [.int (-4), .ref o0]) d_TrustDeskModel_compares_83 lV_TrustDeskModel_279 b487 rfl (tc_TrustDeskModel_emits_x (d := (d + 7)) (x9 := x9) (o0 := o0) (x1 := (-4)) t479 R476 (by have := R476.1 15 _ _ rfl; have := R476.1 16 _ _ rfl; have := R476.1 19 _ _ rfl; have := E480.f yS; omega) (by decide) I474.start) rfl (Nat.le_of_ble_eq_true rfl) (Nat.le_of_ble_eq_true rfl) (Nat.le_of_ble_eq_true rfl) (hst := rfl) (fun b481r M482 n483 b481 => ?_)
        obtain ⟨T484, J485, rfl, R488, f489⟩ := b481
        have I486 := I474.call J485 (tm_sub (by decide)) (Or.inl rfl)
        have t490 := J485.up t479
        have := (rv_c I474 J485 (I474.up h_o0) (k := 16) rfl)
        have := (rv_c I474 J485 (I474.up h_o0) (k := 17) rfl)
        have := (rv_c I474 J485 (I474.up h_o0) (k := 19) rfl)
        have := (rv_c I474 J485 (I474.up h_o0) (k := 22) rfl)
        have E491 : rE M0 M482 o0 1 0 := E480.emit f489 (rE_hv I474 J485 (I474.up h_o0) 15 19 (by decide)) (yR.2 5 _ _ rfl 44).1 (by decide) (Or.inr (Or.inr ⟨by decide, by decide, by decide, by decide⟩)) (by decide)
        exact mv_vret d_TrustDeskModel_compares_86 rfl ⟨_, I486, rfl, R488, E491, (by have := R488.1 15 _ _ rfl; have := R488.1 16 _ _ rfl; have := R488.1 19 _ _ rfl; have := E491.f yS; omega)⟩
theorem lV_TrustDeskModel_305 : mj_lV "TrustDeskModel" 305 kY_TrustDeskModel_compares 0 := ⟨⟨(mj_in1 (List.mem_of_getElem? (i := 1729) (by decide +kernel)) rfl), (mj_in1 (List.mem_of_getElem? (i := 10) (by decide +kernel)) rfl), (mj_in1 (List.mem_of_getElem? (i := 1732) (by decide +kernel)) rfl), by decide, rfl, by decide⟩, (mj_in1 (List.mem_of_getElem? (i := 1731) (by decide +kernel)) rfl), (mj_in (List.mem_append_left _ (List.mem_of_getElem? (i := 96) (by decide +kernel))) rfl)⟩
theorem d_TrustDeskModel_part_0_84 : decode kY_TrustDeskModel_part_0.2.1 84 = .ok (.iload_n 1, 1) := by decide +kernel
theorem d_TrustDeskModel_part_0_85 : decode kY_TrustDeskModel_part_0.2.1 85 = .ok (.ifCond .eq 9, 3) := by decide +kernel
theorem d_TrustDeskModel_part_0_94 : decode kY_TrustDeskModel_part_0.2.1 94 = .ok (.return_, 1) := by decide +kernel
theorem d_TrustDeskModel_part_0_88 : decode kY_TrustDeskModel_part_0.2.1 88 = .ok (.aload_n 0, 1) := by decide +kernel
theorem d_TrustDeskModel_part_0_89 : decode kY_TrustDeskModel_part_0.2.1 89 = .ok (.bipush (-9), 2) := by decide +kernel
theorem d_TrustDeskModel_part_0_91 : decode kY_TrustDeskModel_part_0.2.1 91 = .ok (.invokevirtual 279, 3) := by decide +kernel
theorem d_TrustDeskModel_part_0_53 : decode kY_TrustDeskModel_part_0.2.1 53 = .ok (.aload_n 0, 1) := by decide +kernel
theorem d_TrustDeskModel_part_0_54 : decode kY_TrustDeskModel_part_0.2.1 54 = .ok (.invokevirtual 285, 3) := by decide +kernel
theorem d_TrustDeskModel_part_0_57 : decode kY_TrustDeskModel_part_0.2.1 57 = .ok (.aload_n 0, 1) := by decide +kernel
theorem d_TrustDeskModel_part_0_58 : decode kY_TrustDeskModel_part_0.2.1 58 = .ok (.invokevirtual 302, 3) := by decide +kernel
def w_TrustDeskModel_part_0_q0_x : List Nat := []
theorem tc_TrustDeskModel_part_0_q0_x {g : mj_G} {l : Launch} {d : Nat} {T0 : tm_H} {M0 : mj_M} {n0 x9 : Nat} {o0 : Nat} (h_o0 : T0 o0 = some (0, 13, 0)) (yR : rI M0 o0) (yT : rT M0 o0) (yS : rv M0 o0 19 = 0 → ra M0 o0 5 44 ≤ rv M0 o0 16) (yL : rv M0 o0 19 ≠ 0 ∨ (5 ≤ rv M0 o0 22 ∧ rv M0 o0 22 ≤ 4)) (I0 : tm_I tm_FT (tm_in w_TrustDeskModel_part_0_q0_x) x9 T0 M0 n0 T0 M0 n0) : mj_Met g l kY_TrustDeskModel_part_0 (d + 1) [.ref o0] M0 n0 0 0 (tm_Q tm_FT (tm_in w_TrustDeskModel_part_0_q0_x) x9 T0 M0 n0 (fun r _ M => r = none ∧ rI M o0 ∧ (rE M0 M o0 1 0) ∧ (rv M o0 19 = 0 → rv M o0 22 = rv M0 o0 22))) := by
  refine mj_enter (by decide) (Nat.le_of_ble_eq_true rfl) ?_
  have yE0 := rE.rf yT
  refine mv_iconst (v := 0) d_TrustDeskModel_part_0_0 (by decide) ?_
  refine mv_istore_n (lv' := [(1, .int 0), (0, .ref o0)]) d_TrustDeskModel_part_0_1 rfl (by decide) rfl ?_
  have L2_1 : ∀ (k : Nat) (i1_1 : Int32) (T_1 : tm_H) (M_1 : mj_M) (n_1 : Nat), tm_I tm_FT (tm_in w_TrustDeskModel_part_0_q0_x) x9 T0 M0 n0 T_1 M_1 n_1 → T_1 o0 = some (0, 13, 0) → (rv M_1 o0 19 = 0 → rv M_1 o0 22 = rv M0 o0 22) → 0 ≤ i1_1.toInt → i1_1.toInt ≤ 1 → (rI M_1 o0) → (rE M0 M_1 o0 0 i1_1.toInt) → 5 * (401 - rv M_1 o0 16) - rv M_1 o0 19 < (k : Int) → mj_V g l kY_TrustDeskModel_part_0 (d + 1) 2 [(1, .int i1_1), (0, .ref o0)] [] M_1 n_1 0 0 (tm_Q tm_FT (tm_in w_TrustDeskModel_part_0_q0_x) x9 T0 M0 n0 (fun r _ M => r = none ∧ rI M o0 ∧ (rE M0 M o0 1 0) ∧ (rv M o0 19 = 0 → rv M o0 22 = rv M0 o0 22))) := by
    intro k1
    induction k1 with
    | zero =>
      intro i1_1 T_1 M_1 n_1 I_1 h_q0_1 iv0_1 iv1_1 iv2_1 kKR_1 kKE_1 hk1
      have := kKR_1.1 15 _ _ rfl
      have := kKR_1.1 16 _ _ rfl
      have := kKR_1.1 19 _ _ rfl
      exfalso; omega
    | succ k1 ih1 =>
      intro i1_1 T_1 M_1 n_1 I_1 h_q0_1 iv0_1 iv1_1 iv2_1 kKR_1 kKE_1 hk1
      have := kKE_1.f yS
      refine mv_aload_n d_TrustDeskModel_part_0_2 rfl rfl ?_
      obtain ⟨_, b2, -⟩ := I_1.1 _ _ h_q0_1
      refine mv_callV (kc1 := 0) (ks1 := 0) (kc' := 0) (ks' := 0) (As := []) (st9 := [.ref o0]) d_TrustDeskModel_part_0_3 lV_TrustDeskModel_230 b2 rfl (mj_enter (by decide) (Nat.le_of_ble_eq_true rfl) ?_) rfl (Nat.le_of_ble_eq_true rfl) (Nat.le_of_ble_eq_true rfl) (Nat.le_of_ble_eq_true rfl) (hst := rfl) (fun _ _ _ h => h)
      refine mv_aload_n d_TrustDeskModel_isWell_0 rfl rfl ?_
      obtain ⟨v4, q3⟩ := tm_atI I_1 h_q0_1 (k := 19) rfl
      refine tr_getK q3 d_TrustDeskModel_isWell_1 f_TrustDeskModel_224_13 ?_
      have := kKR_1.f (k := 19) q3 rfl
      have := tm_rv q3
      refine mv_if_neZ (tgt := 11) (a := v4.toInt) d_TrustDeskModel_isWell_4 (by decide) rfl (fun b5 => ?_) (fun b5 => ?_)
      · refine mv_iconst (v := 0) d_TrustDeskModel_isWell_11 (by decide) ?_
        refine mv_iret d_TrustDeskModel_isWell_12 rfl (by decide) ?_
        refine mv_if_eq_t (tgt := 36) d_TrustDeskModel_part_0_6 (by decide) (by decide) ?_
        refine mv_aload_n d_TrustDeskModel_part_0_36 rfl rfl ?_
        obtain ⟨_, b6, -⟩ := I_1.1 _ _ h_q0_1
        refine mv_callV (kc1 := 0) (ks1 := 0) (kc' := 0) (ks' := 0) (As := []) (st9 := [.ref o0]) d_TrustDeskModel_part_0_37 lV_TrustDeskModel_230 b6 rfl (mj_enter (by decide) (Nat.le_of_ble_eq_true rfl) ?_) rfl (Nat.le_of_ble_eq_true rfl) (Nat.le_of_ble_eq_true rfl) (Nat.le_of_ble_eq_true rfl) (hst := rfl) (fun _ _ _ h => h)
        refine mv_aload_n d_TrustDeskModel_isWell_0 rfl rfl ?_
        refine tr_getK (k := 19) q3 d_TrustDeskModel_isWell_1 f_TrustDeskModel_224_13 ?_
        refine mv_if_neZ (tgt := 11) (a := v4.toInt) d_TrustDeskModel_isWell_4 (by decide) rfl (fun b7 => ?_) (fun b7 => ?_)
        · refine mv_iconst (v := 0) d_TrustDeskModel_isWell_11 (by decide) ?_
          refine mv_iret d_TrustDeskModel_isWell_12 rfl (by decide) ?_
          refine mv_if_ne_f (tgt := 44) d_TrustDeskModel_part_0_40 (by decide) (by decide) ?_
          exact mv_vret d_TrustDeskModel_part_0_43 rfl ⟨_, I_1, rfl, kKR_1, kKE_1.vac (by have := kKR_1.1 15 _ _ rfl; have := kKR_1.1 16 _ _ rfl; have := kKR_1.1 19 _ _ rfl; have := kKE_1.f yS; omega) 1 0, (by have := kKR_1.1 15 _ _ rfl; have := kKR_1.1 16 _ _ rfl; have := kKR_1.1 19 _ _ rfl; have := kKE_1.f yS; omega)⟩
        · exfalso
          have := kKR_1.1 15 _ _ rfl; have := kKR_1.1 16 _ _ rfl; have := kKR_1.1 19 _ _ rfl; have := kKE_1.f yS; omega
      · exfalso
        have := kKR_1.1 15 _ _ rfl; have := kKR_1.1 16 _ _ rfl; have := kKR_1.1 19 _ _ rfl; have := kKE_1.f yS; omega
  exact mv_less (Nat.zero_le _) (Nat.zero_le _) (L2_1 4294967296 0 T0 M0 n0 I0 h_o0 (by have := yR.1 15 _ _ rfl; have := yR.1 16 _ _ rfl; have := yR.1 19 _ _ rfl; have := yE0.f yS; first | omega | decide) (by have := yR.1 15 _ _ rfl; have := yR.1 16 _ _ rfl; have := yR.1 19 _ _ rfl; have := yE0.f yS; first | omega | decide) (by have := yR.1 15 _ _ rfl; have := yR.1 16 _ _ rfl; have := yR.1 19 _ _ rfl; have := yE0.f yS; first | omega | decide) yR yE0 (by have := yR.1 15 _ _ rfl; have := yR.1 16 _ _ rfl; have := yR.1 19 _ _ rfl; have := yE0.f yS; omega))
theorem lV_TrustDeskModel_308 : mj_lV "TrustDeskModel" 308 kY_TrustDeskModel_part_0 0 := ⟨⟨(mj_in1 (List.mem_of_getElem? (i := 1712) (by decide +kernel)) rfl), (mj_in1 (List.mem_of_getElem? (i := 10) (by decide +kernel)) rfl), (mj_in1 (List.mem_of_getElem? (i := 1715) (by decide +kernel)) rfl), by decide, rfl, by decide⟩, (mj_in1 (List.mem_of_getElem? (i := 1714) (by decide +kernel)) rfl), (mj_in (List.mem_append_left _ (List.mem_of_getElem? (i := 92) (by decide +kernel))) rfl)⟩
theorem d_TrustDeskModel_both_4 : decode kY_TrustDeskModel_both.2.1 4 = .ok (.aload_n 0, 1) := by decide +kernel
theorem d_TrustDeskModel_both_5 : decode kY_TrustDeskModel_both.2.1 5 = .ok (.invokevirtual 230, 3) := by decide +kernel
theorem d_TrustDeskModel_both_8 : decode kY_TrustDeskModel_both.2.1 8 = .ok (.ifCond .eq 30, 3) := by decide +kernel
theorem d_TrustDeskModel_both_38 : decode kY_TrustDeskModel_both.2.1 38 = .ok (.return_, 1) := by decide +kernel
def w_TrustDeskModel_both_q0_x : List Nat := []
theorem tc_TrustDeskModel_both_q0_x {g : mj_G} {l : Launch} {d : Nat} {T0 : tm_H} {M0 : mj_M} {n0 x9 : Nat} {o0 : Nat} (h_o0 : T0 o0 = some (0, 13, 0)) (yR : rI M0 o0) (yT : rT M0 o0) (yS : rv M0 o0 19 = 0 → ra M0 o0 5 44 ≤ rv M0 o0 16) (yL : rv M0 o0 19 ≠ 0 ∨ (5 ≤ rv M0 o0 22 ∧ rv M0 o0 22 ≤ 4)) (I0 : tm_I tm_FT (tm_in w_TrustDeskModel_both_q0_x) x9 T0 M0 n0 T0 M0 n0) : mj_Met g l kY_TrustDeskModel_both (d + 2) [.ref o0] M0 n0 0 0 (tm_Q tm_FT (tm_in w_TrustDeskModel_both_q0_x) x9 T0 M0 n0 (fun r _ M => r = none ∧ rI M o0 ∧ (rE M0 M o0 1 0) ∧ (rv M o0 19 = 0 → rv M o0 22 = rv M0 o0 22))) := by
  refine mj_enter (by decide) (Nat.le_of_ble_eq_true rfl) ?_
  have yE0 := rE.rf yT
  refine mv_aload_n d_TrustDeskModel_both_0 rfl rfl ?_
  obtain ⟨_, b7, -⟩ := I0.1 _ _ h_o0
  refine mv_callV (kc' := 0) (ks' := 0) (As := []) (st9 := [.ref o0]) d_TrustDeskModel_both_1 lV_TrustDeskModel_308 b7 rfl (tc_TrustDeskModel_part_0_q0_x (d := d) (x9 := x9) (o0 := o0) h_o0 yR yE0.1 (by have := yR.1 15 _ _ rfl; have := yR.1 16 _ _ rfl; have := yR.1 19 _ _ rfl; have := yE0.f yS; omega) (by have := yR.1 15 _ _ rfl; have := yR.1 16 _ _ rfl; have := yR.1 19 _ _ rfl; have := yE0.f yS; omega) I0.start) rfl (Nat.le_of_ble_eq_true rfl) (Nat.le_of_ble_eq_true rfl) (Nat.le_of_ble_eq_true rfl) (hst := rfl) (fun b1r M2 n3 b1 => ?_)
  obtain ⟨T4, J5, rfl, R8, f9, f10⟩ := b1
  have I6 := I0.call J5 (tm_sub (by decide)) (Or.inl rfl)
  have t11 := J5.up h_o0
  have := (rv_c I0 J5 (I0.up h_o0) (k := 16) rfl)
  have := (rv_c I0 J5 (I0.up h_o0) (k := 17) rfl)
  have := (rv_c I0 J5 (I0.up h_o0) (k := 19) rfl)
  have := (rv_c I0 J5 (I0.up h_o0) (k := 22) rfl)
  have E12 : rE M0 M2 o0 1 0 := yE0.trans f9 (by decide) (yR.2 5 _ _ rfl 44).1 (by decide) (by decide)
  have := f9.w
  have L4_13 : ∀ (k : Nat) (T_13 : tm_H) (M_13 : mj_M) (n_13 : Nat), tm_I tm_FT (tm_in w_TrustDeskModel_both_q0_x) x9 T0 M0 n0 T_13 M_13 n_13 → T_13 o0 = some (0, 13, 0) → (rv M_13 o0 19 = 0 → rv M_13 o0 22 = rv M0 o0 22) → (rI M_13 o0) → (rE M0 M_13 o0 1 0) → 5 * (401 - rv M_13 o0 16) - rv M_13 o0 19 < (k : Int) → mj_V g l kY_TrustDeskModel_both (d + 2) 4 [(0, .ref o0)] [] M_13 n_13 0 0 (tm_Q tm_FT (tm_in w_TrustDeskModel_both_q0_x) x9 T0 M0 n0 (fun r _ M => r = none ∧ rI M o0 ∧ (rE M0 M o0 1 0) ∧ (rv M o0 19 = 0 → rv M o0 22 = rv M0 o0 22))) := by
    intro k13
    induction k13 with
    | zero =>
      intro T_13 M_13 n_13 I_13 h_q0_13 iv0_13 kKR_13 kKE_13 hk13
      have := kKR_13.1 15 _ _ rfl
      have := kKR_13.1 16 _ _ rfl
      have := kKR_13.1 19 _ _ rfl
      exfalso; omega
    | succ k13 ih13 =>
      intro T_13 M_13 n_13 I_13 h_q0_13 iv0_13 kKR_13 kKE_13 hk13
      have := kKE_13.f yS
      refine mv_aload_n d_TrustDeskModel_both_4 rfl rfl ?_
      obtain ⟨_, b14, -⟩ := I_13.1 _ _ h_q0_13
      refine mv_callV (kc1 := 0) (ks1 := 0) (kc' := 0) (ks' := 0) (As := []) (st9 := [.ref o0]) d_TrustDeskModel_both_5 lV_TrustDeskModel_230 b14 rfl (mj_enter (by decide) (Nat.le_of_ble_eq_true rfl) ?_) rfl (Nat.le_of_ble_eq_true rfl) (Nat.le_of_ble_eq_true rfl) (Nat.le_of_ble_eq_true rfl) (hst := rfl) (fun _ _ _ h => h)
      refine mv_aload_n d_TrustDeskModel_isWell_0 rfl rfl ?_
      obtain ⟨v16, q15⟩ := tm_atI I_13 h_q0_13 (k := 19) rfl
      refine tr_getK q15 d_TrustDeskModel_isWell_1 f_TrustDeskModel_224_13 ?_
      have := kKR_13.f (k := 19) q15 rfl
      have := tm_rv q15
      refine mv_if_neZ (tgt := 11) (a := v16.toInt) d_TrustDeskModel_isWell_4 (by decide) rfl (fun b17 => ?_) (fun b17 => ?_)
      · refine mv_iconst (v := 0) d_TrustDeskModel_isWell_11 (by decide) ?_
        refine mv_iret d_TrustDeskModel_isWell_12 rfl (by decide) ?_
        refine mv_if_eq_t (tgt := 38) d_TrustDeskModel_both_8 (by decide) (by decide) ?_
        exact mv_vret d_TrustDeskModel_both_38 rfl ⟨_, I_13, rfl, kKR_13, kKE_13, (by have := kKR_13.1 15 _ _ rfl; have := kKR_13.1 16 _ _ rfl; have := kKR_13.1 19 _ _ rfl; have := kKE_13.f yS; omega)⟩
      · exfalso
        have := kKR_13.1 15 _ _ rfl; have := kKR_13.1 16 _ _ rfl; have := kKR_13.1 19 _ _ rfl; have := kKE_13.f yS; omega
  exact mv_less (Nat.zero_le _) (Nat.zero_le _) (L4_13 4294967296 T4 M2 n3 I6 t11 (by have := R8.1 15 _ _ rfl; have := R8.1 16 _ _ rfl; have := R8.1 19 _ _ rfl; have := E12.f yS; first | omega | decide) R8 E12 (by have := R8.1 15 _ _ rfl; have := R8.1 16 _ _ rfl; have := R8.1 19 _ _ rfl; have := E12.f yS; omega))
theorem lV_TrustDeskModel_312 : mj_lV "TrustDeskModel" 312 kY_TrustDeskModel_both 0 := ⟨⟨(mj_in1 (List.mem_of_getElem? (i := 1708) (by decide +kernel)) rfl), (mj_in1 (List.mem_of_getElem? (i := 10) (by decide +kernel)) rfl), (mj_in1 (List.mem_of_getElem? (i := 1711) (by decide +kernel)) rfl), by decide, rfl, by decide⟩, (mj_in1 (List.mem_of_getElem? (i := 1710) (by decide +kernel)) rfl), (mj_in (List.mem_append_left _ (List.mem_of_getElem? (i := 91) (by decide +kernel))) rfl)⟩
theorem d_TrustDeskModel_cond_4 : decode kY_TrustDeskModel_cond.2.1 4 = .ok (.aload_n 0, 1) := by decide +kernel
theorem d_TrustDeskModel_cond_5 : decode kY_TrustDeskModel_cond.2.1 5 = .ok (.invokevirtual 230, 3) := by decide +kernel
theorem d_TrustDeskModel_cond_8 : decode kY_TrustDeskModel_cond.2.1 8 = .ok (.ifCond .eq 30, 3) := by decide +kernel
theorem d_TrustDeskModel_cond_38 : decode kY_TrustDeskModel_cond.2.1 38 = .ok (.return_, 1) := by decide +kernel
def w_TrustDeskModel_cond_q0_x : List Nat := []
theorem tc_TrustDeskModel_cond_q0_x {g : mj_G} {l : Launch} {d : Nat} {T0 : tm_H} {M0 : mj_M} {n0 x9 : Nat} {o0 : Nat} (h_o0 : T0 o0 = some (0, 13, 0)) (yR : rI M0 o0) (yT : rT M0 o0) (yS : rv M0 o0 19 = 0 → ra M0 o0 5 44 ≤ rv M0 o0 16) (yL : rv M0 o0 19 ≠ 0 ∨ (5 ≤ rv M0 o0 22 ∧ rv M0 o0 22 ≤ 4)) (I0 : tm_I tm_FT (tm_in w_TrustDeskModel_cond_q0_x) x9 T0 M0 n0 T0 M0 n0) : mj_Met g l kY_TrustDeskModel_cond (d + 3) [.ref o0] M0 n0 0 0 (tm_Q tm_FT (tm_in w_TrustDeskModel_cond_q0_x) x9 T0 M0 n0 (fun r _ M => r = none ∧ rI M o0 ∧ (rE M0 M o0 1 0) ∧ (rv M o0 19 = 0 → rv M o0 22 = rv M0 o0 22))) := by
  refine mj_enter (by decide) (Nat.le_of_ble_eq_true rfl) ?_
  have yE0 := rE.rf yT
  refine mv_aload_n d_TrustDeskModel_cond_0 rfl rfl ?_
  obtain ⟨_, b7, -⟩ := I0.1 _ _ h_o0
  refine mv_callV (kc' := 0) (ks' := 0) (As := []) (st9 := [.ref o0]) d_TrustDeskModel_cond_1 lV_TrustDeskModel_312 b7 rfl (tc_TrustDeskModel_both_q0_x (d := d) (x9 := x9) (o0 := o0) h_o0 yR yE0.1 (by have := yR.1 15 _ _ rfl; have := yR.1 16 _ _ rfl; have := yR.1 19 _ _ rfl; have := yE0.f yS; omega) (by have := yR.1 15 _ _ rfl; have := yR.1 16 _ _ rfl; have := yR.1 19 _ _ rfl; have := yE0.f yS; omega) I0.start) rfl (Nat.le_of_ble_eq_true rfl) (Nat.le_of_ble_eq_true rfl) (Nat.le_of_ble_eq_true rfl) (hst := rfl) (fun b1r M2 n3 b1 => ?_)
  obtain ⟨T4, J5, rfl, R8, f9, f10⟩ := b1
  have I6 := I0.call J5 (tm_sub (by decide)) (Or.inl rfl)
  have t11 := J5.up h_o0
  have := (rv_c I0 J5 (I0.up h_o0) (k := 16) rfl)
  have := (rv_c I0 J5 (I0.up h_o0) (k := 17) rfl)
  have := (rv_c I0 J5 (I0.up h_o0) (k := 19) rfl)
  have := (rv_c I0 J5 (I0.up h_o0) (k := 22) rfl)
  have E12 : rE M0 M2 o0 1 0 := yE0.trans f9 (by decide) (yR.2 5 _ _ rfl 44).1 (by decide) (by decide)
  have := f9.w
  have L4_13 : ∀ (k : Nat) (T_13 : tm_H) (M_13 : mj_M) (n_13 : Nat), tm_I tm_FT (tm_in w_TrustDeskModel_cond_q0_x) x9 T0 M0 n0 T_13 M_13 n_13 → T_13 o0 = some (0, 13, 0) → (rv M_13 o0 19 = 0 → rv M_13 o0 22 = rv M0 o0 22) → (rI M_13 o0) → (rE M0 M_13 o0 1 0) → 5 * (401 - rv M_13 o0 16) - rv M_13 o0 19 < (k : Int) → mj_V g l kY_TrustDeskModel_cond (d + 3) 4 [(0, .ref o0)] [] M_13 n_13 0 0 (tm_Q tm_FT (tm_in w_TrustDeskModel_cond_q0_x) x9 T0 M0 n0 (fun r _ M => r = none ∧ rI M o0 ∧ (rE M0 M o0 1 0) ∧ (rv M o0 19 = 0 → rv M o0 22 = rv M0 o0 22))) := by
    intro k13
    induction k13 with
    | zero =>
      intro T_13 M_13 n_13 I_13 h_q0_13 iv0_13 kKR_13 kKE_13 hk13
      have := kKR_13.1 15 _ _ rfl
      have := kKR_13.1 16 _ _ rfl
      have := kKR_13.1 19 _ _ rfl
      exfalso; omega
    | succ k13 ih13 =>
      intro T_13 M_13 n_13 I_13 h_q0_13 iv0_13 kKR_13 kKE_13 hk13
      have := kKE_13.f yS
      refine mv_aload_n d_TrustDeskModel_cond_4 rfl rfl ?_
      obtain ⟨_, b14, -⟩ := I_13.1 _ _ h_q0_13
      refine mv_callV (kc1 := 0) (ks1 := 0) (kc' := 0) (ks' := 0) (As := []) (st9 := [.ref o0]) d_TrustDeskModel_cond_5 lV_TrustDeskModel_230 b14 rfl (mj_enter (by decide) (Nat.le_of_ble_eq_true rfl) ?_) rfl (Nat.le_of_ble_eq_true rfl) (Nat.le_of_ble_eq_true rfl) (Nat.le_of_ble_eq_true rfl) (hst := rfl) (fun _ _ _ h => h)
      refine mv_aload_n d_TrustDeskModel_isWell_0 rfl rfl ?_
      obtain ⟨v16, q15⟩ := tm_atI I_13 h_q0_13 (k := 19) rfl
      refine tr_getK q15 d_TrustDeskModel_isWell_1 f_TrustDeskModel_224_13 ?_
      have := kKR_13.f (k := 19) q15 rfl
      have := tm_rv q15
      refine mv_if_neZ (tgt := 11) (a := v16.toInt) d_TrustDeskModel_isWell_4 (by decide) rfl (fun b17 => ?_) (fun b17 => ?_)
      · refine mv_iconst (v := 0) d_TrustDeskModel_isWell_11 (by decide) ?_
        refine mv_iret d_TrustDeskModel_isWell_12 rfl (by decide) ?_
        refine mv_if_eq_t (tgt := 38) d_TrustDeskModel_cond_8 (by decide) (by decide) ?_
        exact mv_vret d_TrustDeskModel_cond_38 rfl ⟨_, I_13, rfl, kKR_13, kKE_13, (by have := kKR_13.1 15 _ _ rfl; have := kKR_13.1 16 _ _ rfl; have := kKR_13.1 19 _ _ rfl; have := kKE_13.f yS; omega)⟩
      · exfalso
        have := kKR_13.1 15 _ _ rfl; have := kKR_13.1 16 _ _ rfl; have := kKR_13.1 19 _ _ rfl; have := kKE_13.f yS; omega
  exact mv_less (Nat.zero_le _) (Nat.zero_le _) (L4_13 4294967296 T4 M2 n3 I6 t11 (by have := R8.1 15 _ _ rfl; have := R8.1 16 _ _ rfl; have := R8.1 19 _ _ rfl; have := E12.f yS; first | omega | decide) R8 E12 (by have := R8.1 15 _ _ rfl; have := R8.1 16 _ _ rfl; have := R8.1 19 _ _ rfl; have := E12.f yS; omega))
theorem lV_TrustDeskModel_302 : mj_lV "TrustDeskModel" 302 kY_TrustDeskModel_cond 0 := ⟨⟨(mj_in1 (List.mem_of_getElem? (i := 1704) (by decide +kernel)) rfl), (mj_in1 (List.mem_of_getElem? (i := 10) (by decide +kernel)) rfl), (mj_in1 (List.mem_of_getElem? (i := 1707) (by decide +kernel)) rfl), by decide, rfl, by decide⟩, (mj_in1 (List.mem_of_getElem? (i := 1706) (by decide +kernel)) rfl), (mj_in (List.mem_append_left _ (List.mem_of_getElem? (i := 90) (by decide +kernel))) rfl)⟩
theorem d_TrustDeskModel_part_0_61 : decode kY_TrustDeskModel_part_0.2.1 61 = .ok (.aload_n 0, 1) := by decide +kernel
theorem d_TrustDeskModel_part_0_62 : decode kY_TrustDeskModel_part_0.2.1 62 = .ok (.bipush 93, 2) := by decide +kernel
theorem d_TrustDeskModel_part_0_64 : decode kY_TrustDeskModel_part_0.2.1 64 = .ok (.invokevirtual 291, 3) := by decide +kernel
theorem d_TrustDeskModel_part_0_67 : decode kY_TrustDeskModel_part_0.2.1 67 = .ok (.aload_n 0, 1) := by decide +kernel
theorem d_TrustDeskModel_part_0_68 : decode kY_TrustDeskModel_part_0.2.1 68 = .ok (.dup, 1) := by decide +kernel
theorem d_TrustDeskModel_part_0_69 : decode kY_TrustDeskModel_part_0.2.1 69 = .ok (.getfield 276, 3) := by decide +kernel
theorem d_TrustDeskModel_part_0_72 : decode kY_TrustDeskModel_part_0.2.1 72 = .ok (.iconst 1, 1) := by decide +kernel
theorem d_TrustDeskModel_part_0_73 : decode kY_TrustDeskModel_part_0.2.1 73 = .ok (.isub, 1) := by decide +kernel
theorem d_TrustDeskModel_part_0_74 : decode kY_TrustDeskModel_part_0.2.1 74 = .ok (.putfield 276, 3) := by decide +kernel
theorem d_TrustDeskModel_part_0_77 : decode kY_TrustDeskModel_part_0.2.1 77 = .ok (.goto 7, 3) := by decide +kernel
theorem d_TrustDeskModel_part_0_9 : decode kY_TrustDeskModel_part_0.2.1 9 = .ok (.aload_n 0, 1) := by decide +kernel
theorem d_TrustDeskModel_part_0_10 : decode kY_TrustDeskModel_part_0.2.1 10 = .ok (.ldc_w 300, 3) := by decide +kernel
theorem d_TrustDeskModel_part_0_13 : decode kY_TrustDeskModel_part_0.2.1 13 = .ok (.invokevirtual 244, 3) := by decide +kernel
def w_TrustDeskModel_isWord_s1_26_x : List Nat := []
theorem tc_TrustDeskModel_isWord_s1_26_x {g : mj_G} {l : Launch} {d : Nat} {T0 : tm_H} {M0 : mj_M} {n0 x9 : Nat} {o0 : Nat} (h_o0 : T0 o0 = some (0, 13, 0)) (yR : rI M0 o0) (I0 : tm_I tm_FT (tm_in w_TrustDeskModel_isWord_s1_26_x) x9 T0 M0 n0 T0 M0 n0) : mj_Met g l kY_TrustDeskModel_isWord (d + 4) [.ref o0, .ref 26] M0 n0 0 0 (tm_Q tm_FT (tm_in w_TrustDeskModel_isWord_s1_26_x) x9 T0 M0 n0 (fun r _ M => ∃ v : Int32, r = some (.int v) ∧ 0 ≤ v.toInt ∧ v.toInt ≤ 1 ∧ rI M o0 ∧ (v.toInt = 1 → rv M0 o0 17 = 3))) := by
  refine mj_enter (by decide) (Nat.le_of_ble_eq_true rfl) ?_
  refine mv_aload_n d_TrustDeskModel_isWord_0 rfl rfl ?_
  obtain ⟨v2, q1⟩ := tm_atI I0 h_o0 (k := 17) rfl
  refine tr_getK q1 d_TrustDeskModel_isWord_1 f_TrustDeskModel_198_13 ?_
  have := tm_rv q1
  refine mv_iconst (v := 3) d_TrustDeskModel_isWord_4 (by decide) ?_
  have := mz_hi v2
  refine mv_icmp_neZ (tgt := 24) (a := v2.toInt) (b := 3) d_TrustDeskModel_isWord_5 (by decide) rfl (by decide) (fun b3 => ?_) (fun b3 => ?_)
  · refine mv_iconst (v := 0) d_TrustDeskModel_isWord_24 (by decide) ?_
    exact mv_iret d_TrustDeskModel_isWord_25 rfl (by decide) ⟨_, I0, _, rfl, by decide, by decide, yR, (fun h => absurd h (by decide))⟩
  · refine mv_aload_n d_TrustDeskModel_isWord_8 rfl rfl ?_
    obtain ⟨v5, q4⟩ := tm_atI I0 h_o0 (k := 15) rfl
    refine tr_getK q4 d_TrustDeskModel_isWord_9 f_TrustDeskModel_192_13 ?_
    have := yR.f (k := 15) q4 rfl
    have := tm_rv q4
    refine mv_aload_n d_TrustDeskModel_isWord_12 rfl rfl ?_
    obtain ⟨v7, q6⟩ := tm_atI I0 h_o0 (k := 16) rfl
    refine tr_getK q6 d_TrustDeskModel_isWord_13 f_TrustDeskModel_195_13 ?_
    have := yR.f (k := 16) q6 rfl
    have := tm_rv q6
    refine mv_isub d_TrustDeskModel_isWord_16 ?_
    refine mv_aload_n d_TrustDeskModel_isWord_17 rfl rfl ?_
    refine mv_slenK (i := 16) (v := 3) d_TrustDeskModel_isWord_18 lV_TrustDeskModel_214 (by decide) rfl (by decide) (Nat.le_of_ble_eq_true rfl) ?_
    have b8 : (v5 - v7 : Int32).toInt = (v5.toInt - v7.toInt) := mz_sub2 rfl rfl (by have := yR.1 15 _ _ rfl; have := yR.1 16 _ _ rfl; have := yR.1 19 _ _ rfl; omega) (by have := yR.1 15 _ _ rfl; have := yR.1 16 _ _ rfl; have := yR.1 19 _ _ rfl; omega)
    have := mz_hi (v5 - v7)
    refine mv_icmp_eqZ (tgt := 26) (a := (v5 - v7).toInt) (b := 3) d_TrustDeskModel_isWord_21 (by decide) rfl (by decide) (fun b9 => ?_) (fun b9 => ?_)
    · refine mv_iconst (v := 0) d_TrustDeskModel_isWord_26 (by decide) ?_
      refine mv_istore_n (lv' := [(2, .int 0), (0, .ref o0), (1, .ref 26)]) d_TrustDeskModel_isWord_27 rfl (by decide) rfl ?_
      have L28_10 : ∀ (k : Nat) (i2_10 : Int32) (T_10 : tm_H) (M_10 : mj_M) (n_10 : Nat), tm_I tm_FT (tm_in w_TrustDeskModel_isWord_s1_26_x) x9 T0 M0 n0 T_10 M_10 n_10 → T_10 o0 = some (0, 13, 0) → 0 ≤ i2_10.toInt → rv M_10 o0 15 = rv M0 o0 15 → rv M_10 o0 16 = rv M0 o0 16 → i2_10.toInt ≤ 2147483646 → (rI M_10 o0) → 2147483647 - i2_10.toInt < (k : Int) → mj_V g l kY_TrustDeskModel_isWord (d + 4) 28 [(2, .int i2_10), (0, .ref o0), (1, .ref 26)] [] M_10 n_10 0 0 (tm_Q tm_FT (tm_in w_TrustDeskModel_isWord_s1_26_x) x9 T0 M0 n0 (fun r _ M => ∃ v : Int32, r = some (.int v) ∧ 0 ≤ v.toInt ∧ v.toInt ≤ 1 ∧ rI M o0 ∧ (v.toInt = 1 → rv M0 o0 17 = 3))) := by
        intro k10
        induction k10 with
        | zero =>
          intro i2_10 T_10 M_10 n_10 I_10 h_q0_10 iv0_10 iv1_10 iv2_10 iv3_10 kKR_10 hk10
          have := mz_hi i2_10
          have := kKR_10.1 15 _ _ rfl
          have := kKR_10.1 16 _ _ rfl
          have := kKR_10.1 19 _ _ rfl
          omega
        | succ k10 ih10 =>
          intro i2_10 T_10 M_10 n_10 I_10 h_q0_10 iv0_10 iv1_10 iv2_10 iv3_10 kKR_10 hk10
          refine mv_iload_n d_TrustDeskModel_isWord_28 rfl rfl ?_
          refine mv_aload_n d_TrustDeskModel_isWord_29 rfl rfl ?_
          refine mv_slenK (i := 16) (v := 3) d_TrustDeskModel_isWord_30 lV_TrustDeskModel_214 (by decide) rfl (by decide) (Nat.le_of_ble_eq_true rfl) ?_
          have := mz_hi i2_10
          refine mv_icmp_geZ (tgt := 63) (a := i2_10.toInt) (b := 3) d_TrustDeskModel_isWord_33 (by decide) rfl (by decide) (fun b11 => ?_) (fun b11 => ?_)
          · refine mv_iconst (v := 1) d_TrustDeskModel_isWord_63 (by decide) ?_
            exact mv_iret d_TrustDeskModel_isWord_64 rfl (by decide) ⟨_, I_10, _, rfl, by decide, by decide, kKR_10, (fun _ => by omega)⟩
          · refine mv_aload_n d_TrustDeskModel_isWord_36 rfl rfl ?_
            obtain ⟨a13, q12, t_a13⟩ := tm_atR I_10 h_q0_10 (k := 13) rfl
            refine tr_getK q12 d_TrustDeskModel_isWord_37 f_TrustDeskModel_44_13 ?_
            refine mv_aload_n d_TrustDeskModel_isWord_40 rfl rfl ?_
            obtain ⟨v15, q14⟩ := tm_atI I_10 h_q0_10 (k := 16) rfl
            refine tr_getK q14 d_TrustDeskModel_isWord_41 f_TrustDeskModel_195_13 ?_
            have := kKR_10.f (k := 16) q14 rfl
            have := tm_rv q14
            refine mv_iload_n d_TrustDeskModel_isWord_44 rfl rfl ?_
            refine mv_iadd d_TrustDeskModel_isWord_45 ?_
            have b16 : (v15 + i2_10 : Int32).toInt = (v15.toInt + i2_10.toInt) := mz_add2 rfl rfl (by have := kKR_10.1 15 _ _ rfl; have := kKR_10.1 16 _ _ rfl; have := kKR_10.1 19 _ _ rfl; omega) (by have := kKR_10.1 15 _ _ rfl; have := kKR_10.1 16 _ _ rfl; have := kKR_10.1 19 _ _ rfl; omega)
            refine tr_baldR (o := o0) (k := 13) I_10 q12 t_a13 (by decide) d_TrustDeskModel_isWord_46 (vp_in_iff.mpr (by have := kKR_10.1 15 _ _ rfl; have := kKR_10.1 16 _ _ rfl; have := kKR_10.1 19 _ _ rfl; omega)) (fun v17 e18 => ?_)
            have := kKR_10.a (k := 13) rfl ((v15 + i2_10) : Int32).toNatClampNeg
            refine mv_aload_n d_TrustDeskModel_isWord_47 rfl rfl ?_
            refine mv_iload_n d_TrustDeskModel_isWord_48 rfl rfl ?_
            refine mv_schN (i := 16) (N := 3) d_TrustDeskModel_isWord_49 lV_TrustDeskModel_220 (by decide) rfl rfl (by omega) (by omega) (Nat.le_of_ble_eq_true rfl) (fun v19 => ?_)
            have := mz_hi v17
            have := mz_hi v19
            refine mv_icmp_eqZ (tgt := 57) (a := v17.toInt) (b := v19.toInt) d_TrustDeskModel_isWord_52 (by decide) rfl rfl (fun b20 => ?_) (fun b20 => ?_)
            · refine mv_iinc (v := (i2_10 + 1)) (lv' := [(2, .int (i2_10 + 1)), (0, .ref o0), (1, .ref 26)]) d_TrustDeskModel_isWord_57 rfl rfl (by decide) rfl ?_
              refine mv_goto (tgt := 28) d_TrustDeskModel_isWord_60 (by decide) ?_
              have b21 : (i2_10 + 1).toInt = i2_10.toInt + 1 := mz_addn 1 1 (by decide) (by have := mz_lo i2_10; omega) (by have := mz_hi i2_10; omega)
              exact (ih10 (i2_10 + 1) T_10 M_10 n_10 I_10 h_q0_10 (by have := kKR_10.1 15 _ _ rfl; have := kKR_10.1 16 _ _ rfl; have := kKR_10.1 19 _ _ rfl; first | omega | decide) (by have := kKR_10.1 15 _ _ rfl; have := kKR_10.1 16 _ _ rfl; have := kKR_10.1 19 _ _ rfl; first | omega | decide) (by have := kKR_10.1 15 _ _ rfl; have := kKR_10.1 16 _ _ rfl; have := kKR_10.1 19 _ _ rfl; first | omega | decide) (by have := kKR_10.1 15 _ _ rfl; have := kKR_10.1 16 _ _ rfl; have := kKR_10.1 19 _ _ rfl; first | omega | decide) kKR_10 (by have := kKR_10.1 15 _ _ rfl; have := kKR_10.1 16 _ _ rfl; have := kKR_10.1 19 _ _ rfl; omega))
            · refine mv_iconst (v := 0) d_TrustDeskModel_isWord_55 (by decide) ?_
              exact mv_iret d_TrustDeskModel_isWord_56 rfl (by decide) ⟨_, I_10, _, rfl, by decide, by decide, kKR_10, (fun h => absurd h (by decide))⟩
      exact mv_less (Nat.zero_le _) (Nat.zero_le _) (L28_10 4294967296 0 T0 M0 n0 I0 h_o0 (by have := yR.1 15 _ _ rfl; have := yR.1 16 _ _ rfl; have := yR.1 19 _ _ rfl; first | omega | decide) (by have := yR.1 15 _ _ rfl; have := yR.1 16 _ _ rfl; have := yR.1 19 _ _ rfl; first | omega | decide) (by have := yR.1 15 _ _ rfl; have := yR.1 16 _ _ rfl; have := yR.1 19 _ _ rfl; first | omega | decide) (by have := yR.1 15 _ _ rfl; have := yR.1 16 _ _ rfl; have := yR.1 19 _ _ rfl; first | omega | decide) yR (by show (2147483647 - (0 : Int) : Int) < _; decide))
    · refine mv_iconst (v := 0) d_TrustDeskModel_isWord_24 (by decide) ?_
      exact mv_iret d_TrustDeskModel_isWord_25 rfl (by decide) ⟨_, I0, _, rfl, by decide, by decide, yR, (fun h => absurd h (by decide))⟩
theorem d_TrustDeskModel_part_0_16 : decode kY_TrustDeskModel_part_0.2.1 16 = .ok (.ifCond .eq 20, 3) := by decide +kernel
theorem d_TrustDeskModel_part_0_19 : decode kY_TrustDeskModel_part_0.2.1 19 = .ok (.aload_n 0, 1) := by decide +kernel
theorem d_TrustDeskModel_part_0_20 : decode kY_TrustDeskModel_part_0.2.1 20 = .ok (.invokevirtual 237, 3) := by decide +kernel
theorem d_TrustDeskModel_part_0_23 : decode kY_TrustDeskModel_part_0.2.1 23 = .ok (.iload_n 1, 1) := by decide +kernel
theorem d_TrustDeskModel_part_0_24 : decode kY_TrustDeskModel_part_0.2.1 24 = .ok (.ifCond .ne 7, 3) := by decide +kernel
theorem d_TrustDeskModel_part_0_31 : decode kY_TrustDeskModel_part_0.2.1 31 = .ok (.iconst 0, 1) := by decide +kernel
theorem d_TrustDeskModel_part_0_32 : decode kY_TrustDeskModel_part_0.2.1 32 = .ok (.istore_n 1, 1) := by decide +kernel
theorem d_TrustDeskModel_part_0_33 : decode kY_TrustDeskModel_part_0.2.1 33 = .ok (.goto (-31), 3) := by decide +kernel
theorem d_TrustDeskModel_part_0_27 : decode kY_TrustDeskModel_part_0.2.1 27 = .ok (.iconst 1, 1) := by decide +kernel
theorem d_TrustDeskModel_part_0_28 : decode kY_TrustDeskModel_part_0.2.1 28 = .ok (.goto 4, 3) := by decide +kernel
def w_TrustDeskModel_part_0_q1_x : List Nat := [1315, 1316, 1317, 1318, 1319, 1320, 1322, 20004, 20005]
theorem tc_TrustDeskModel_part_0_q1_x {g : mj_G} {l : Launch} {d : Nat} {T0 : tm_H} {M0 : mj_M} {n0 x9 : Nat} {o0 : Nat} (h_o0 : T0 o0 = some (0, 13, 0)) (yR : rI M0 o0) (yT : rT M0 o0) (yS : rv M0 o0 19 = 0 → ra M0 o0 5 44 ≤ rv M0 o0 16) (yL : rv M0 o0 19 ≠ 0 ∨ (4 ≤ rv M0 o0 22 ∧ rv M0 o0 22 ≤ 4)) (I0 : tm_I tm_FT (tm_in w_TrustDeskModel_part_0_q1_x) x9 T0 M0 n0 T0 M0 n0) : mj_Met g l kY_TrustDeskModel_part_0 (d + 10) [.ref o0] M0 n0 0 0 (tm_Q tm_FT (tm_in w_TrustDeskModel_part_0_q1_x) x9 T0 M0 n0 (fun r _ M => r = none ∧ rI M o0 ∧ (rE M0 M o0 1 0) ∧ (rv M o0 19 = 0 → rv M o0 22 = rv M0 o0 22))) := by
  refine mj_enter (by decide) (Nat.le_of_ble_eq_true rfl) ?_
  have yE0 := rE.rf yT
  refine mv_iconst (v := 0) d_TrustDeskModel_part_0_0 (by decide) ?_
  refine mv_istore_n (lv' := [(1, .int 0), (0, .ref o0)]) d_TrustDeskModel_part_0_1 rfl (by decide) rfl ?_
  have L2_1 : ∀ (k : Nat) (i1_1 : Int32) (T_1 : tm_H) (M_1 : mj_M) (n_1 : Nat), tm_I tm_FT (tm_in w_TrustDeskModel_part_0_q1_x) x9 T0 M0 n0 T_1 M_1 n_1 → T_1 o0 = some (0, 13, 0) → (rv M_1 o0 19 = 0 → rv M_1 o0 22 = rv M0 o0 22) → 0 ≤ i1_1.toInt → i1_1.toInt ≤ 1 → (rI M_1 o0) → (rE M0 M_1 o0 0 i1_1.toInt) → 5 * (401 - rv M_1 o0 16) - rv M_1 o0 19 < (k : Int) → mj_V g l kY_TrustDeskModel_part_0 (d + 10) 2 [(1, .int i1_1), (0, .ref o0)] [] M_1 n_1 0 0 (tm_Q tm_FT (tm_in w_TrustDeskModel_part_0_q1_x) x9 T0 M0 n0 (fun r _ M => r = none ∧ rI M o0 ∧ (rE M0 M o0 1 0) ∧ (rv M o0 19 = 0 → rv M o0 22 = rv M0 o0 22))) := by
    intro k1
    induction k1 with
    | zero =>
      intro i1_1 T_1 M_1 n_1 I_1 h_q0_1 iv0_1 iv1_1 iv2_1 kKR_1 kKE_1 hk1
      have := kKR_1.1 15 _ _ rfl
      have := kKR_1.1 16 _ _ rfl
      have := kKR_1.1 19 _ _ rfl
      exfalso; omega
    | succ k1 ih1 =>
      intro i1_1 T_1 M_1 n_1 I_1 h_q0_1 iv0_1 iv1_1 iv2_1 kKR_1 kKE_1 hk1
      have := kKE_1.f yS
      refine mv_aload_n d_TrustDeskModel_part_0_2 rfl rfl ?_
      obtain ⟨_, b2, -⟩ := I_1.1 _ _ h_q0_1
      refine mv_callV (kc1 := 0) (ks1 := 0) (kc' := 0) (ks' := 0) (As := []) (st9 := [.ref o0]) d_TrustDeskModel_part_0_3 lV_TrustDeskModel_230 b2 rfl (mj_enter (by decide) (Nat.le_of_ble_eq_true rfl) ?_) rfl (Nat.le_of_ble_eq_true rfl) (Nat.le_of_ble_eq_true rfl) (Nat.le_of_ble_eq_true rfl) (hst := rfl) (fun _ _ _ h => h)
      refine mv_aload_n d_TrustDeskModel_isWell_0 rfl rfl ?_
      obtain ⟨v4, q3⟩ := tm_atI I_1 h_q0_1 (k := 19) rfl
      refine tr_getK q3 d_TrustDeskModel_isWell_1 f_TrustDeskModel_224_13 ?_
      have := kKR_1.f (k := 19) q3 rfl
      have := tm_rv q3
      have := mz_hi v4
      refine mv_if_neZ (tgt := 11) (a := v4.toInt) d_TrustDeskModel_isWell_4 (by decide) rfl (fun b5 => ?_) (fun b5 => ?_)
      · refine mv_iconst (v := 0) d_TrustDeskModel_isWell_11 (by decide) ?_
        refine mv_iret d_TrustDeskModel_isWell_12 rfl (by decide) ?_
        refine mv_if_eq_t (tgt := 36) d_TrustDeskModel_part_0_6 (by decide) (by decide) ?_
        refine mv_aload_n d_TrustDeskModel_part_0_36 rfl rfl ?_
        obtain ⟨_, b6, -⟩ := I_1.1 _ _ h_q0_1
        refine mv_callV (kc1 := 0) (ks1 := 0) (kc' := 0) (ks' := 0) (As := []) (st9 := [.ref o0]) d_TrustDeskModel_part_0_37 lV_TrustDeskModel_230 b6 rfl (mj_enter (by decide) (Nat.le_of_ble_eq_true rfl) ?_) rfl (Nat.le_of_ble_eq_true rfl) (Nat.le_of_ble_eq_true rfl) (Nat.le_of_ble_eq_true rfl) (hst := rfl) (fun _ _ _ h => h)
        refine mv_aload_n d_TrustDeskModel_isWell_0 rfl rfl ?_
        refine tr_getK (k := 19) q3 d_TrustDeskModel_isWell_1 f_TrustDeskModel_224_13 ?_
        have := mz_hi v4
        refine mv_if_neZ (tgt := 11) (a := v4.toInt) d_TrustDeskModel_isWell_4 (by decide) rfl (fun b7 => ?_) (fun b7 => ?_)
        · refine mv_iconst (v := 0) d_TrustDeskModel_isWell_11 (by decide) ?_
          refine mv_iret d_TrustDeskModel_isWell_12 rfl (by decide) ?_
          refine mv_if_ne_f (tgt := 44) d_TrustDeskModel_part_0_40 (by decide) (by decide) ?_
          exact mv_vret d_TrustDeskModel_part_0_43 rfl ⟨_, I_1, rfl, kKR_1, kKE_1.vac (by have := kKR_1.1 15 _ _ rfl; have := kKR_1.1 16 _ _ rfl; have := kKR_1.1 19 _ _ rfl; have := kKE_1.f yS; omega) 1 0, (by have := kKR_1.1 15 _ _ rfl; have := kKR_1.1 16 _ _ rfl; have := kKR_1.1 19 _ _ rfl; have := kKE_1.f yS; omega)⟩
        · refine mv_iconst (v := 1) d_TrustDeskModel_isWell_7 (by decide) ?_
          refine mv_goto (tgt := 12) d_TrustDeskModel_isWell_8 (by decide) ?_
          refine mv_iret d_TrustDeskModel_isWell_12 rfl (by decide) ?_
          refine mv_if_ne_t (tgt := 44) d_TrustDeskModel_part_0_40 (by decide) (by decide) ?_
          refine mv_aload_n d_TrustDeskModel_part_0_44 rfl rfl ?_
          refine mv_bipush (v := 91) d_TrustDeskModel_part_0_45 (by decide) ?_
          obtain ⟨_, b8, -⟩ := I_1.1 _ _ h_q0_1
          refine mv_callV (kc1 := 0) (ks1 := 0) (kc' := 0) (ks' := 0) (As := [.int 91]) (st9 := [.int 91, .ref o0]) d_TrustDeskModel_part_0_47 lV_TrustDeskModel_234 b8 rfl (mj_enter (by decide) (Nat.le_of_ble_eq_true rfl) ?_) rfl (Nat.le_of_ble_eq_true rfl) (Nat.le_of_ble_eq_true rfl) (Nat.le_of_ble_eq_true rfl) (hst := rfl) (fun _ _ _ h => h)
          refine mv_aload_n d_TrustDeskModel_isSign_0 rfl rfl ?_
          obtain ⟨v10, q9⟩ := tm_atI I_1 h_q0_1 (k := 17) rfl
          refine tr_getK q9 d_TrustDeskModel_isSign_1 f_TrustDeskModel_198_13 ?_
          have := tm_rv q9
          refine mv_iconst (v := 4) d_TrustDeskModel_isSign_4 (by decide) ?_
          have := mz_hi v10
          refine mv_icmp_neZ (tgt := 20) (a := v10.toInt) (b := 4) d_TrustDeskModel_isSign_5 (by decide) rfl (by decide) (fun b11 => ?_) (fun b11 => ?_)
          · refine mv_iconst (v := 0) d_TrustDeskModel_isSign_20 (by decide) ?_
            refine mv_iret d_TrustDeskModel_isSign_21 rfl (by decide) ?_
            refine mv_if_eq_t (tgt := 80) d_TrustDeskModel_part_0_50 (by decide) (by decide) ?_
            refine mv_aload_n d_TrustDeskModel_part_0_80 rfl rfl ?_
            obtain ⟨_, b18, -⟩ := I_1.1 _ _ h_q0_1
            refine mv_callV (kc' := 0) (ks' := 0) (As := []) (st9 := [.ref o0]) d_TrustDeskModel_part_0_81 lV_TrustDeskModel_305 b18 rfl (tc_TrustDeskModel_compares_q1_x (d := d) (x9 := x9) (o0 := o0) h_q0_1 kKR_1 kKE_1.1 (by have := kKR_1.1 15 _ _ rfl; have := kKR_1.1 16 _ _ rfl; have := kKR_1.1 19 _ _ rfl; have := kKE_1.f yS; omega) (by have := kKR_1.1 15 _ _ rfl; have := kKR_1.1 16 _ _ rfl; have := kKR_1.1 19 _ _ rfl; have := kKE_1.f yS; omega) I_1.start) rfl (Nat.le_of_ble_eq_true rfl) (Nat.le_of_ble_eq_true rfl) (Nat.le_of_ble_eq_true rfl) (hst := rfl) (fun b12r M13 n14 b12 => ?_)
            obtain ⟨T15, J16, rfl, R19, f20, f21⟩ := b12
            have I17 := I_1.call J16 (tm_sub (by decide)) (Or.inl rfl)
            have t22 := J16.up h_q0_1
            have E23 : rE M0 M13 o0 1 (i1_1.toInt + 0) := kKE_1.trans f20 (by decide) (yR.2 5 _ _ rfl 44).1 (by decide) (by omega)
            have := f20.w
            refine mv_iload_n d_TrustDeskModel_part_0_84 rfl rfl ?_
            have := mz_hi i1_1
            refine mv_if_eqZ (tgt := 94) (a := i1_1.toInt) d_TrustDeskModel_part_0_85 (by decide) rfl (fun b24 => ?_) (fun b24 => ?_)
            · exact mv_vret d_TrustDeskModel_part_0_94 rfl ⟨_, I17, rfl, R19, E23.less (by omega), (by have := R19.1 15 _ _ rfl; have := R19.1 16 _ _ rfl; have := R19.1 19 _ _ rfl; have := E23.f yS; omega)⟩
            · refine mv_aload_n d_TrustDeskModel_part_0_88 rfl rfl ?_
              refine mv_bipush (v := (-9)) d_TrustDeskModel_part_0_89 (by decide) ?_
              obtain ⟨_, b31, -⟩ := I17.1 _ _ t22
              refine mv_callV (kc' := 0) (ks' := 0) (As := [.int (-9)]) (st9 := [.int (-9), .ref o0]) d_TrustDeskModel_part_0_91 lV_TrustDeskModel_279 b31 rfl (tc_TrustDeskModel_emits_x (d := (d + 8)) (x9 := x9) (o0 := o0) (x1 := (-9)) t22 R19 (by have := R19.1 15 _ _ rfl; have := R19.1 16 _ _ rfl; have := R19.1 19 _ _ rfl; have := E23.f yS; omega) (by decide) I17.start) rfl (Nat.le_of_ble_eq_true rfl) (Nat.le_of_ble_eq_true rfl) (Nat.le_of_ble_eq_true rfl) (hst := rfl) (fun b25r M26 n27 b25 => ?_)
              obtain ⟨T28, J29, rfl, R32, f33⟩ := b25
              have I30 := I17.call J29 (tm_sub (by decide)) (Or.inl rfl)
              have t34 := J29.up t22
              have := (rv_c I17 J29 (I17.up h_o0) (k := 16) rfl)
              have := (rv_c I17 J29 (I17.up h_o0) (k := 17) rfl)
              have := (rv_c I17 J29 (I17.up h_o0) (k := 19) rfl)
              have := (rv_c I17 J29 (I17.up h_o0) (k := 22) rfl)
              have E35 : rE M0 M26 o0 1 (i1_1.toInt + (-1)) := E23.emit f33 (rE_hv I17 J29 (I17.up h_o0) 15 19 (by decide)) (yR.2 5 _ _ rfl 44).1 (by decide) (Or.inr (Or.inl ⟨by decide, by decide, by decide⟩)) (by omega)
              exact mv_vret d_TrustDeskModel_part_0_94 rfl ⟨_, I30, rfl, R32, E35.less (by omega), (by have := R32.1 15 _ _ rfl; have := R32.1 16 _ _ rfl; have := R32.1 19 _ _ rfl; have := E35.f yS; omega)⟩
          · refine mv_aload_n d_TrustDeskModel_isSign_8 rfl rfl ?_
            obtain ⟨v37, q36⟩ := tm_atI I_1 h_q0_1 (k := 18) rfl
            refine tr_getK q36 d_TrustDeskModel_isSign_9 f_TrustDeskModel_201_13 ?_
            have := kKR_1.f (k := 18) q36 rfl
            have := tm_rv q36
            refine mv_iload_n d_TrustDeskModel_isSign_12 rfl rfl ?_
            have := mz_hi v37
            refine mv_icmp_neZ (tgt := 20) (a := v37.toInt) (b := 91) d_TrustDeskModel_isSign_13 (by decide) rfl (by decide) (fun b38 => ?_) (fun b38 => ?_)
            · refine mv_iconst (v := 0) d_TrustDeskModel_isSign_20 (by decide) ?_
              refine mv_iret d_TrustDeskModel_isSign_21 rfl (by decide) ?_
              refine mv_if_eq_t (tgt := 80) d_TrustDeskModel_part_0_50 (by decide) (by decide) ?_
              refine mv_aload_n d_TrustDeskModel_part_0_80 rfl rfl ?_
              obtain ⟨_, b45, -⟩ := I_1.1 _ _ h_q0_1
              refine mv_callV (kc' := 0) (ks' := 0) (As := []) (st9 := [.ref o0]) d_TrustDeskModel_part_0_81 lV_TrustDeskModel_305 b45 rfl (tc_TrustDeskModel_compares_q1_x (d := d) (x9 := x9) (o0 := o0) h_q0_1 kKR_1 kKE_1.1 (by have := kKR_1.1 15 _ _ rfl; have := kKR_1.1 16 _ _ rfl; have := kKR_1.1 19 _ _ rfl; have := kKE_1.f yS; omega) (by have := kKR_1.1 15 _ _ rfl; have := kKR_1.1 16 _ _ rfl; have := kKR_1.1 19 _ _ rfl; have := kKE_1.f yS; omega) I_1.start) rfl (Nat.le_of_ble_eq_true rfl) (Nat.le_of_ble_eq_true rfl) (Nat.le_of_ble_eq_true rfl) (hst := rfl) (fun b39r M40 n41 b39 => ?_)
              obtain ⟨T42, J43, rfl, R46, f47, f48⟩ := b39
              have I44 := I_1.call J43 (tm_sub (by decide)) (Or.inl rfl)
              have t49 := J43.up h_q0_1
              have E50 : rE M0 M40 o0 1 (i1_1.toInt + 0) := kKE_1.trans f47 (by decide) (yR.2 5 _ _ rfl 44).1 (by decide) (by omega)
              have := f47.w
              refine mv_iload_n d_TrustDeskModel_part_0_84 rfl rfl ?_
              have := mz_hi i1_1
              refine mv_if_eqZ (tgt := 94) (a := i1_1.toInt) d_TrustDeskModel_part_0_85 (by decide) rfl (fun b51 => ?_) (fun b51 => ?_)
              · exact mv_vret d_TrustDeskModel_part_0_94 rfl ⟨_, I44, rfl, R46, E50.less (by omega), (by have := R46.1 15 _ _ rfl; have := R46.1 16 _ _ rfl; have := R46.1 19 _ _ rfl; have := E50.f yS; omega)⟩
              · refine mv_aload_n d_TrustDeskModel_part_0_88 rfl rfl ?_
                refine mv_bipush (v := (-9)) d_TrustDeskModel_part_0_89 (by decide) ?_
                obtain ⟨_, b58, -⟩ := I44.1 _ _ t49
                refine mv_callV (kc' := 0) (ks' := 0) (As := [.int (-9)]) (st9 := [.int (-9), .ref o0]) d_TrustDeskModel_part_0_91 lV_TrustDeskModel_279 b58 rfl (tc_TrustDeskModel_emits_x (d := (d + 8)) (x9 := x9) (o0 := o0) (x1 := (-9)) t49 R46 (by have := R46.1 15 _ _ rfl; have := R46.1 16 _ _ rfl; have := R46.1 19 _ _ rfl; have := E50.f yS; omega) (by decide) I44.start) rfl (Nat.le_of_ble_eq_true rfl) (Nat.le_of_ble_eq_true rfl) (Nat.le_of_ble_eq_true rfl) (hst := rfl) (fun b52r M53 n54 b52 => ?_)
                obtain ⟨T55, J56, rfl, R59, f60⟩ := b52
                have I57 := I44.call J56 (tm_sub (by decide)) (Or.inl rfl)
                have t61 := J56.up t49
                have := (rv_c I44 J56 (I44.up h_o0) (k := 16) rfl)
                have := (rv_c I44 J56 (I44.up h_o0) (k := 17) rfl)
                have := (rv_c I44 J56 (I44.up h_o0) (k := 19) rfl)
                have := (rv_c I44 J56 (I44.up h_o0) (k := 22) rfl)
                have E62 : rE M0 M53 o0 1 (i1_1.toInt + (-1)) := E50.emit f60 (rE_hv I44 J56 (I44.up h_o0) 15 19 (by decide)) (yR.2 5 _ _ rfl 44).1 (by decide) (Or.inr (Or.inl ⟨by decide, by decide, by decide⟩)) (by omega)
                exact mv_vret d_TrustDeskModel_part_0_94 rfl ⟨_, I57, rfl, R59, E62.less (by omega), (by have := R59.1 15 _ _ rfl; have := R59.1 16 _ _ rfl; have := R59.1 19 _ _ rfl; have := E62.f yS; omega)⟩
            · refine mv_iconst (v := 1) d_TrustDeskModel_isSign_16 (by decide) ?_
              refine mv_goto (tgt := 21) d_TrustDeskModel_isSign_17 (by decide) ?_
              refine mv_iret d_TrustDeskModel_isSign_21 rfl (by decide) ?_
              refine mv_if_eq_f (tgt := 80) d_TrustDeskModel_part_0_50 (by decide) (by decide) ?_
              refine mv_aload_n d_TrustDeskModel_part_0_53 rfl rfl ?_
              obtain ⟨_, b69, -⟩ := I_1.1 _ _ h_q0_1
              refine mv_callV (kc' := 0) (ks' := 0) (As := []) (st9 := [.ref o0]) d_TrustDeskModel_part_0_54 lV_TrustDeskModel_285 b69 rfl (tc_TrustDeskModel_opens_x (d := (d + 7)) (x9 := x9) (o0 := o0) h_q0_1 kKR_1 kKE_1.1 (by have := kKR_1.1 15 _ _ rfl; have := kKR_1.1 16 _ _ rfl; have := kKR_1.1 19 _ _ rfl; have := kKE_1.f yS; omega) (by have := kKR_1.1 15 _ _ rfl; have := kKR_1.1 16 _ _ rfl; have := kKR_1.1 19 _ _ rfl; have := kKE_1.f yS; omega) (by have := kKR_1.1 15 _ _ rfl; have := kKR_1.1 16 _ _ rfl; have := kKR_1.1 19 _ _ rfl; have := kKE_1.f yS; omega) I_1.start) rfl (Nat.le_of_ble_eq_true rfl) (Nat.le_of_ble_eq_true rfl) (Nat.le_of_ble_eq_true rfl) (hst := rfl) (fun b63r M64 n65 b63 => ?_)
              obtain ⟨T66, J67, rfl, R70, f71, f72⟩ := b63
              have I68 := I_1.call J67 (tm_sub (by decide)) (Or.inl rfl)
              have t73 := J67.up h_q0_1
              have E74 : rE M0 M64 o0 0 (i1_1.toInt + 1) := kKE_1.trans f71 (by decide) (yR.2 5 _ _ rfl 44).1 (by decide) (by omega)
              have := f71.w
              refine mv_aload_n d_TrustDeskModel_part_0_57 rfl rfl ?_
              obtain ⟨_, b81, -⟩ := I68.1 _ _ t73
              refine mv_callV (kc' := 0) (ks' := 0) (As := []) (st9 := [.ref o0]) d_TrustDeskModel_part_0_58 lV_TrustDeskModel_302 b81 rfl (tc_TrustDeskModel_cond_q0_x (d := (d + 6)) (x9 := x9) (o0 := o0) t73 R70 E74.1 (by have := R70.1 15 _ _ rfl; have := R70.1 16 _ _ rfl; have := R70.1 19 _ _ rfl; have := E74.f yS; omega) (by have := R70.1 15 _ _ rfl; have := R70.1 16 _ _ rfl; have := R70.1 19 _ _ rfl; have := E74.f yS; omega) I68.start) rfl (Nat.le_of_ble_eq_true rfl) (Nat.le_of_ble_eq_true rfl) (Nat.le_of_ble_eq_true rfl) (hst := rfl) (fun b75r M76 n77 b75 => ?_)
              obtain ⟨T78, J79, rfl, R82, f83, f84⟩ := b75
              have I80 := I68.call J79 (tm_sub (by decide)) (Or.inl rfl)
              have t85 := J79.up t73
              have := (rv_c I68 J79 (I68.up h_o0) (k := 16) rfl)
              have := (rv_c I68 J79 (I68.up h_o0) (k := 17) rfl)
              have := (rv_c I68 J79 (I68.up h_o0) (k := 19) rfl)
              have := (rv_c I68 J79 (I68.up h_o0) (k := 22) rfl)
              have E86 : rE M0 M76 o0 1 (i1_1.toInt + 1) := E74.trans f83 (by decide) (yR.2 5 _ _ rfl 44).1 (by decide) (by omega)
              have := f83.w
              refine mv_aload_n d_TrustDeskModel_part_0_61 rfl rfl ?_
              refine mv_bipush (v := 93) d_TrustDeskModel_part_0_62 (by decide) ?_
              obtain ⟨_, b93, -⟩ := I80.1 _ _ t85
              refine mv_callV (kc' := 0) (ks' := 0) (As := [.int 93]) (st9 := [.int 93, .ref o0]) d_TrustDeskModel_part_0_64 lV_TrustDeskModel_291 b93 rfl (tc_TrustDeskModel_wantSign_x (d := (d + 7)) (x9 := x9) (o0 := o0) (x1 := 93) t85 R82 E86.1 (by have := R82.1 15 _ _ rfl; have := R82.1 16 _ _ rfl; have := R82.1 19 _ _ rfl; have := E86.f yS; omega) I80.start) rfl (Nat.le_of_ble_eq_true rfl) (Nat.le_of_ble_eq_true rfl) (Nat.le_of_ble_eq_true rfl) (hst := rfl) (fun b87r M88 n89 b87 => ?_)
              obtain ⟨T90, J91, rfl, R94, f95⟩ := b87
              have I92 := I80.call J91 (tm_sub (by decide)) (Or.inl rfl)
              have t96 := J91.up t85
              have := (rv_c I80 J91 (I80.up h_o0) (k := 22) rfl)
              have E97 : rE M0 M88 o0 1 (i1_1.toInt + 2) := E86.trans f95 (by decide) (yR.2 5 _ _ rfl 44).1 (by decide) (by omega)
              have := f95.w
              refine mv_aload_n d_TrustDeskModel_part_0_67 rfl rfl ?_
              refine mv_dup d_TrustDeskModel_part_0_68 rfl ?_
              obtain ⟨v99, q98⟩ := tm_atI I92 t96 (k := 22) rfl
              refine tr_getK q98 d_TrustDeskModel_part_0_69 f_TrustDeskModel_276_13 ?_
              have := tm_rv q98
              refine mv_iconst (v := 1) d_TrustDeskModel_part_0_72 (by decide) ?_
              refine mv_isub d_TrustDeskModel_part_0_73 ?_
              have : rv M88 o0 19 = 0 → (v99 - 1 : Int32).toInt = v99.toInt - 1 := fun h9 => mz_sub2 rfl (by decide) (by omega) (by omega)
              refine tr_putR (k := 22) I92 R94 t96 rfl ⟨_, rfl⟩ (fun _ h => by cases h) rfl (fun lo hi h => by cases h) (Or.inl (by decide)) d_TrustDeskModel_part_0_74 p_TrustDeskModel_276_13 rfl rfl (fun M100 I101 q102 K103 R104 A105 V106 => ?_)
              have := V106 16 (by decide)
              have := V106 17 (by decide)
              have := V106 19 (by decide)
              have := tm_rv q102
              have E107 : rE M0 M100 o0 1 (i1_1.toInt + 2) := E97.same (fun k h1 h2 => V106 k (by omega)) (fun k h1 h2 => A105 k (by omega))
              refine mv_goto (tgt := 84) d_TrustDeskModel_part_0_77 (by decide) ?_
              refine mv_iload_n d_TrustDeskModel_part_0_84 rfl rfl ?_
              have := mz_hi i1_1
              refine mv_if_eqZ (tgt := 94) (a := i1_1.toInt) d_TrustDeskModel_part_0_85 (by decide) rfl (fun b108 => ?_) (fun b108 => ?_)
              · exact mv_vret d_TrustDeskModel_part_0_94 rfl ⟨_, I101, rfl, R104, E107.less (by omega), (by have := R104.1 15 _ _ rfl; have := R104.1 16 _ _ rfl; have := R104.1 19 _ _ rfl; have := E107.f yS; omega)⟩
              · refine mv_aload_n d_TrustDeskModel_part_0_88 rfl rfl ?_
                refine mv_bipush (v := (-9)) d_TrustDeskModel_part_0_89 (by decide) ?_
                obtain ⟨_, b115, -⟩ := I101.1 _ _ t96
                refine mv_callV (kc' := 0) (ks' := 0) (As := [.int (-9)]) (st9 := [.int (-9), .ref o0]) d_TrustDeskModel_part_0_91 lV_TrustDeskModel_279 b115 rfl (tc_TrustDeskModel_emits_x (d := (d + 8)) (x9 := x9) (o0 := o0) (x1 := (-9)) t96 R104 (by have := R104.1 15 _ _ rfl; have := R104.1 16 _ _ rfl; have := R104.1 19 _ _ rfl; have := E107.f yS; omega) (by decide) I101.start) rfl (Nat.le_of_ble_eq_true rfl) (Nat.le_of_ble_eq_true rfl) (Nat.le_of_ble_eq_true rfl) (hst := rfl) (fun b109r M110 n111 b109 => ?_)
                obtain ⟨T112, J113, rfl, R116, f117⟩ := b109
                have I114 := I101.call J113 (tm_sub (by decide)) (Or.inl rfl)
                have t118 := J113.up t96
                have := (rv_c I101 J113 (I101.up h_o0) (k := 16) rfl)
                have := (rv_c I101 J113 (I101.up h_o0) (k := 17) rfl)
                have := (rv_c I101 J113 (I101.up h_o0) (k := 19) rfl)
                have := (rv_c I101 J113 (I101.up h_o0) (k := 22) rfl)
                have E119 : rE M0 M110 o0 1 (i1_1.toInt + 1) := E107.emit f117 (rE_hv I101 J113 (I101.up h_o0) 15 19 (by decide)) (yR.2 5 _ _ rfl 44).1 (by decide) (Or.inr (Or.inl ⟨by decide, by decide, by decide⟩)) (by omega)
                have q120 := J113.keep t96 (by decide) q102
                exact mv_vret d_TrustDeskModel_part_0_94 rfl ⟨_, I114, rfl, R116, E119.less (by omega), (by have := R116.1 15 _ _ rfl; have := R116.1 16 _ _ rfl; have := R116.1 19 _ _ rfl; have := E119.f yS; omega)⟩
      · refine mv_iconst (v := 1) d_TrustDeskModel_isWell_7 (by decide) ?_
        refine mv_goto (tgt := 12) d_TrustDeskModel_isWell_8 (by decide) ?_
        refine mv_iret d_TrustDeskModel_isWell_12 rfl (by decide) ?_
        refine mv_if_eq_f (tgt := 36) d_TrustDeskModel_part_0_6 (by decide) (by decide) ?_
        refine mv_aload_n d_TrustDeskModel_part_0_9 rfl rfl ?_
        refine mv_ldcSw (id := 26) (tx := "not") d_TrustDeskModel_part_0_10 (List.mem_of_getElem? (i := 16) rfl) ?_
        obtain ⟨_, b127, -⟩ := I_1.1 _ _ h_q0_1
        refine mv_callV (kc' := 0) (ks' := 0) (As := [.ref 26]) (st9 := [.ref 26, .ref o0]) d_TrustDeskModel_part_0_13 lV_TrustDeskModel_244 b127 rfl (tc_TrustDeskModel_isWord_s1_26_x (d := (d + 5)) (x9 := x9) (o0 := o0) h_q0_1 kKR_1 I_1.start) rfl (Nat.le_of_ble_eq_true rfl) (Nat.le_of_ble_eq_true rfl) (Nat.le_of_ble_eq_true rfl) (hst := rfl) (fun b121r M122 n123 b121 => ?_)
        obtain ⟨T124, J125, v128, rfl, b129, b130, R131, f132⟩ := b121
        have I126 := I_1.call J125 (tm_sub (by decide)) (Or.inl rfl)
        have t133 := J125.up h_q0_1
        have := (rv_c I_1 J125 (I_1.up h_o0) (k := 16) rfl)
        have := (rv_c I_1 J125 (I_1.up h_o0) (k := 17) rfl)
        have := (rv_c I_1 J125 (I_1.up h_o0) (k := 19) rfl)
        have := (rv_c I_1 J125 (I_1.up h_o0) (k := 22) rfl)
        have E134 : rE M0 M122 o0 0 i1_1.toInt := kKE_1.same (rE_hv I_1 J125 (I_1.up h_o0) 15 19 (by decide)) (rE_ha I_1 J125 (I_1.up h_o0) (by decide))
        have q135 := J125.keep h_q0_1 (by decide) q3
        have := mz_hi v128
        refine mv_if_eqZ (tgt := 36) (a := v128.toInt) d_TrustDeskModel_part_0_16 (by decide) rfl (fun b136 => ?_) (fun b136 => ?_)
        · refine mv_aload_n d_TrustDeskModel_part_0_36 rfl rfl ?_
          obtain ⟨_, b137, -⟩ := I126.1 _ _ t133
          refine mv_callV (kc1 := 0) (ks1 := 0) (kc' := 0) (ks' := 0) (As := []) (st9 := [.ref o0]) d_TrustDeskModel_part_0_37 lV_TrustDeskModel_230 b137 rfl (mj_enter (by decide) (Nat.le_of_ble_eq_true rfl) ?_) rfl (Nat.le_of_ble_eq_true rfl) (Nat.le_of_ble_eq_true rfl) (Nat.le_of_ble_eq_true rfl) (hst := rfl) (fun _ _ _ h => h)
          refine mv_aload_n d_TrustDeskModel_isWell_0 rfl rfl ?_
          refine tr_getK (k := 19) q135 d_TrustDeskModel_isWell_1 f_TrustDeskModel_224_13 ?_
          have := mz_hi v4
          refine mv_if_neZ (tgt := 11) (a := v4.toInt) d_TrustDeskModel_isWell_4 (by decide) rfl (fun b138 => absurd b138 (by omega)) (fun b138 => ?_)
          refine mv_iconst (v := 1) d_TrustDeskModel_isWell_7 (by decide) ?_
          refine mv_goto (tgt := 12) d_TrustDeskModel_isWell_8 (by decide) ?_
          refine mv_iret d_TrustDeskModel_isWell_12 rfl (by decide) ?_
          refine mv_if_ne_t (tgt := 44) d_TrustDeskModel_part_0_40 (by decide) (by decide) ?_
          refine mv_aload_n d_TrustDeskModel_part_0_44 rfl rfl ?_
          refine mv_bipush (v := 91) d_TrustDeskModel_part_0_45 (by decide) ?_
          obtain ⟨_, b139, -⟩ := I126.1 _ _ t133
          refine mv_callV (kc1 := 0) (ks1 := 0) (kc' := 0) (ks' := 0) (As := [.int 91]) (st9 := [.int 91, .ref o0]) d_TrustDeskModel_part_0_47 lV_TrustDeskModel_234 b139 rfl (mj_enter (by decide) (Nat.le_of_ble_eq_true rfl) ?_) rfl (Nat.le_of_ble_eq_true rfl) (Nat.le_of_ble_eq_true rfl) (Nat.le_of_ble_eq_true rfl) (hst := rfl) (fun _ _ _ h => h)
          refine mv_aload_n d_TrustDeskModel_isSign_0 rfl rfl ?_
          obtain ⟨v141, q140⟩ := tm_atI I126 t133 (k := 17) rfl
          refine tr_getK q140 d_TrustDeskModel_isSign_1 f_TrustDeskModel_198_13 ?_
          have := tm_rv q140
          refine mv_iconst (v := 4) d_TrustDeskModel_isSign_4 (by decide) ?_
          have := mz_hi v141
          refine mv_icmp_neZ (tgt := 20) (a := v141.toInt) (b := 4) d_TrustDeskModel_isSign_5 (by decide) rfl (by decide) (fun b142 => ?_) (fun b142 => ?_)
          · refine mv_iconst (v := 0) d_TrustDeskModel_isSign_20 (by decide) ?_
            refine mv_iret d_TrustDeskModel_isSign_21 rfl (by decide) ?_
            refine mv_if_eq_t (tgt := 80) d_TrustDeskModel_part_0_50 (by decide) (by decide) ?_
            refine mv_aload_n d_TrustDeskModel_part_0_80 rfl rfl ?_
            obtain ⟨_, b149, -⟩ := I126.1 _ _ t133
            refine mv_callV (kc' := 0) (ks' := 0) (As := []) (st9 := [.ref o0]) d_TrustDeskModel_part_0_81 lV_TrustDeskModel_305 b149 rfl (tc_TrustDeskModel_compares_q1_x (d := d) (x9 := x9) (o0 := o0) t133 R131 E134.1 (by have := R131.1 15 _ _ rfl; have := R131.1 16 _ _ rfl; have := R131.1 19 _ _ rfl; have := E134.f yS; omega) (by have := R131.1 15 _ _ rfl; have := R131.1 16 _ _ rfl; have := R131.1 19 _ _ rfl; have := E134.f yS; omega) I126.start) rfl (Nat.le_of_ble_eq_true rfl) (Nat.le_of_ble_eq_true rfl) (Nat.le_of_ble_eq_true rfl) (hst := rfl) (fun b143r M144 n145 b143 => ?_)
            obtain ⟨T146, J147, rfl, R150, f151, f152⟩ := b143
            have I148 := I126.call J147 (tm_sub (by decide)) (Or.inl rfl)
            have t153 := J147.up t133
            have E154 : rE M0 M144 o0 1 (i1_1.toInt + 0) := E134.trans f151 (by decide) (yR.2 5 _ _ rfl 44).1 (by decide) (by omega)
            have := f151.w
            refine mv_iload_n d_TrustDeskModel_part_0_84 rfl rfl ?_
            have := mz_hi i1_1
            refine mv_if_eqZ (tgt := 94) (a := i1_1.toInt) d_TrustDeskModel_part_0_85 (by decide) rfl (fun b155 => ?_) (fun b155 => ?_)
            · exact mv_vret d_TrustDeskModel_part_0_94 rfl ⟨_, I148, rfl, R150, E154.less (by omega), (by have := R150.1 15 _ _ rfl; have := R150.1 16 _ _ rfl; have := R150.1 19 _ _ rfl; have := E154.f yS; omega)⟩
            · refine mv_aload_n d_TrustDeskModel_part_0_88 rfl rfl ?_
              refine mv_bipush (v := (-9)) d_TrustDeskModel_part_0_89 (by decide) ?_
              obtain ⟨_, b162, -⟩ := I148.1 _ _ t153
              refine mv_callV (kc' := 0) (ks' := 0) (As := [.int (-9)]) (st9 := [.int (-9), .ref o0]) d_TrustDeskModel_part_0_91 lV_TrustDeskModel_279 b162 rfl (tc_TrustDeskModel_emits_x (d := (d + 8)) (x9 := x9) (o0 := o0) (x1 := (-9)) t153 R150 (by have := R150.1 15 _ _ rfl; have := R150.1 16 _ _ rfl; have := R150.1 19 _ _ rfl; have := E154.f yS; omega) (by decide) I148.start) rfl (Nat.le_of_ble_eq_true rfl) (Nat.le_of_ble_eq_true rfl) (Nat.le_of_ble_eq_true rfl) (hst := rfl) (fun b156r M157 n158 b156 => ?_)
              obtain ⟨T159, J160, rfl, R163, f164⟩ := b156
              have I161 := I148.call J160 (tm_sub (by decide)) (Or.inl rfl)
              have t165 := J160.up t153
              have := (rv_c I148 J160 (I148.up h_o0) (k := 16) rfl)
              have := (rv_c I148 J160 (I148.up h_o0) (k := 17) rfl)
              have := (rv_c I148 J160 (I148.up h_o0) (k := 19) rfl)
              have := (rv_c I148 J160 (I148.up h_o0) (k := 22) rfl)
              have E166 : rE M0 M157 o0 1 (i1_1.toInt + (-1)) := E154.emit f164 (rE_hv I148 J160 (I148.up h_o0) 15 19 (by decide)) (yR.2 5 _ _ rfl 44).1 (by decide) (Or.inr (Or.inl ⟨by decide, by decide, by decide⟩)) (by omega)
              exact mv_vret d_TrustDeskModel_part_0_94 rfl ⟨_, I161, rfl, R163, E166.less (by omega), (by have := R163.1 15 _ _ rfl; have := R163.1 16 _ _ rfl; have := R163.1 19 _ _ rfl; have := E166.f yS; omega)⟩
          · refine mv_aload_n d_TrustDeskModel_isSign_8 rfl rfl ?_
            obtain ⟨v168, q167⟩ := tm_atI I126 t133 (k := 18) rfl
            refine tr_getK q167 d_TrustDeskModel_isSign_9 f_TrustDeskModel_201_13 ?_
            have := R131.f (k := 18) q167 rfl
            have := tm_rv q167
            refine mv_iload_n d_TrustDeskModel_isSign_12 rfl rfl ?_
            have := mz_hi v168
            refine mv_icmp_neZ (tgt := 20) (a := v168.toInt) (b := 91) d_TrustDeskModel_isSign_13 (by decide) rfl (by decide) (fun b169 => ?_) (fun b169 => ?_)
            · refine mv_iconst (v := 0) d_TrustDeskModel_isSign_20 (by decide) ?_
              refine mv_iret d_TrustDeskModel_isSign_21 rfl (by decide) ?_
              refine mv_if_eq_t (tgt := 80) d_TrustDeskModel_part_0_50 (by decide) (by decide) ?_
              refine mv_aload_n d_TrustDeskModel_part_0_80 rfl rfl ?_
              obtain ⟨_, b176, -⟩ := I126.1 _ _ t133
              refine mv_callV (kc' := 0) (ks' := 0) (As := []) (st9 := [.ref o0]) d_TrustDeskModel_part_0_81 lV_TrustDeskModel_305 b176 rfl (tc_TrustDeskModel_compares_q1_x (d := d) (x9 := x9) (o0 := o0) t133 R131 E134.1 (by have := R131.1 15 _ _ rfl; have := R131.1 16 _ _ rfl; have := R131.1 19 _ _ rfl; have := E134.f yS; omega) (by have := R131.1 15 _ _ rfl; have := R131.1 16 _ _ rfl; have := R131.1 19 _ _ rfl; have := E134.f yS; omega) I126.start) rfl (Nat.le_of_ble_eq_true rfl) (Nat.le_of_ble_eq_true rfl) (Nat.le_of_ble_eq_true rfl) (hst := rfl) (fun b170r M171 n172 b170 => ?_)
              obtain ⟨T173, J174, rfl, R177, f178, f179⟩ := b170
              have I175 := I126.call J174 (tm_sub (by decide)) (Or.inl rfl)
              have t180 := J174.up t133
              have E181 : rE M0 M171 o0 1 (i1_1.toInt + 0) := E134.trans f178 (by decide) (yR.2 5 _ _ rfl 44).1 (by decide) (by omega)
              have := f178.w
              refine mv_iload_n d_TrustDeskModel_part_0_84 rfl rfl ?_
              have := mz_hi i1_1
              refine mv_if_eqZ (tgt := 94) (a := i1_1.toInt) d_TrustDeskModel_part_0_85 (by decide) rfl (fun b182 => ?_) (fun b182 => ?_)
              · exact mv_vret d_TrustDeskModel_part_0_94 rfl ⟨_, I175, rfl, R177, E181.less (by omega), (by have := R177.1 15 _ _ rfl; have := R177.1 16 _ _ rfl; have := R177.1 19 _ _ rfl; have := E181.f yS; omega)⟩
              · refine mv_aload_n d_TrustDeskModel_part_0_88 rfl rfl ?_
                refine mv_bipush (v := (-9)) d_TrustDeskModel_part_0_89 (by decide) ?_
                obtain ⟨_, b189, -⟩ := I175.1 _ _ t180
                refine mv_callV (kc' := 0) (ks' := 0) (As := [.int (-9)]) (st9 := [.int (-9), .ref o0]) d_TrustDeskModel_part_0_91 lV_TrustDeskModel_279 b189 rfl (tc_TrustDeskModel_emits_x (d := (d + 8)) (x9 := x9) (o0 := o0) (x1 := (-9)) t180 R177 (by have := R177.1 15 _ _ rfl; have := R177.1 16 _ _ rfl; have := R177.1 19 _ _ rfl; have := E181.f yS; omega) (by decide) I175.start) rfl (Nat.le_of_ble_eq_true rfl) (Nat.le_of_ble_eq_true rfl) (Nat.le_of_ble_eq_true rfl) (hst := rfl) (fun b183r M184 n185 b183 => ?_)
                obtain ⟨T186, J187, rfl, R190, f191⟩ := b183
                have I188 := I175.call J187 (tm_sub (by decide)) (Or.inl rfl)
                have t192 := J187.up t180
                have := (rv_c I175 J187 (I175.up h_o0) (k := 16) rfl)
                have := (rv_c I175 J187 (I175.up h_o0) (k := 17) rfl)
                have := (rv_c I175 J187 (I175.up h_o0) (k := 19) rfl)
                have := (rv_c I175 J187 (I175.up h_o0) (k := 22) rfl)
                have E193 : rE M0 M184 o0 1 (i1_1.toInt + (-1)) := E181.emit f191 (rE_hv I175 J187 (I175.up h_o0) 15 19 (by decide)) (yR.2 5 _ _ rfl 44).1 (by decide) (Or.inr (Or.inl ⟨by decide, by decide, by decide⟩)) (by omega)
                exact mv_vret d_TrustDeskModel_part_0_94 rfl ⟨_, I188, rfl, R190, E193.less (by omega), (by have := R190.1 15 _ _ rfl; have := R190.1 16 _ _ rfl; have := R190.1 19 _ _ rfl; have := E193.f yS; omega)⟩
            · refine mv_iconst (v := 1) d_TrustDeskModel_isSign_16 (by decide) ?_
              refine mv_goto (tgt := 21) d_TrustDeskModel_isSign_17 (by decide) ?_
              refine mv_iret d_TrustDeskModel_isSign_21 rfl (by decide) ?_
              refine mv_if_eq_f (tgt := 80) d_TrustDeskModel_part_0_50 (by decide) (by decide) ?_
              refine mv_aload_n d_TrustDeskModel_part_0_53 rfl rfl ?_
              obtain ⟨_, b200, -⟩ := I126.1 _ _ t133
              refine mv_callV (kc' := 0) (ks' := 0) (As := []) (st9 := [.ref o0]) d_TrustDeskModel_part_0_54 lV_TrustDeskModel_285 b200 rfl (tc_TrustDeskModel_opens_x (d := (d + 7)) (x9 := x9) (o0 := o0) t133 R131 E134.1 (by have := R131.1 15 _ _ rfl; have := R131.1 16 _ _ rfl; have := R131.1 19 _ _ rfl; have := E134.f yS; omega) (by have := R131.1 15 _ _ rfl; have := R131.1 16 _ _ rfl; have := R131.1 19 _ _ rfl; have := E134.f yS; omega) (by have := R131.1 15 _ _ rfl; have := R131.1 16 _ _ rfl; have := R131.1 19 _ _ rfl; have := E134.f yS; omega) I126.start) rfl (Nat.le_of_ble_eq_true rfl) (Nat.le_of_ble_eq_true rfl) (Nat.le_of_ble_eq_true rfl) (hst := rfl) (fun b194r M195 n196 b194 => ?_)
              obtain ⟨T197, J198, rfl, R201, f202, f203⟩ := b194
              have I199 := I126.call J198 (tm_sub (by decide)) (Or.inl rfl)
              have t204 := J198.up t133
              have E205 : rE M0 M195 o0 0 (i1_1.toInt + 1) := E134.trans f202 (by decide) (yR.2 5 _ _ rfl 44).1 (by decide) (by omega)
              have := f202.w
              refine mv_aload_n d_TrustDeskModel_part_0_57 rfl rfl ?_
              obtain ⟨_, b212, -⟩ := I199.1 _ _ t204
              refine mv_callV (kc' := 0) (ks' := 0) (As := []) (st9 := [.ref o0]) d_TrustDeskModel_part_0_58 lV_TrustDeskModel_302 b212 rfl (tc_TrustDeskModel_cond_q0_x (d := (d + 6)) (x9 := x9) (o0 := o0) t204 R201 E205.1 (by have := R201.1 15 _ _ rfl; have := R201.1 16 _ _ rfl; have := R201.1 19 _ _ rfl; have := E205.f yS; omega) (by have := R201.1 15 _ _ rfl; have := R201.1 16 _ _ rfl; have := R201.1 19 _ _ rfl; have := E205.f yS; omega) I199.start) rfl (Nat.le_of_ble_eq_true rfl) (Nat.le_of_ble_eq_true rfl) (Nat.le_of_ble_eq_true rfl) (hst := rfl) (fun b206r M207 n208 b206 => ?_)
              obtain ⟨T209, J210, rfl, R213, f214, f215⟩ := b206
              have I211 := I199.call J210 (tm_sub (by decide)) (Or.inl rfl)
              have t216 := J210.up t204
              have := (rv_c I199 J210 (I199.up h_o0) (k := 16) rfl)
              have := (rv_c I199 J210 (I199.up h_o0) (k := 17) rfl)
              have := (rv_c I199 J210 (I199.up h_o0) (k := 19) rfl)
              have := (rv_c I199 J210 (I199.up h_o0) (k := 22) rfl)
              have E217 : rE M0 M207 o0 1 (i1_1.toInt + 1) := E205.trans f214 (by decide) (yR.2 5 _ _ rfl 44).1 (by decide) (by omega)
              have := f214.w
              refine mv_aload_n d_TrustDeskModel_part_0_61 rfl rfl ?_
              refine mv_bipush (v := 93) d_TrustDeskModel_part_0_62 (by decide) ?_
              obtain ⟨_, b224, -⟩ := I211.1 _ _ t216
              refine mv_callV (kc' := 0) (ks' := 0) (As := [.int 93]) (st9 := [.int 93, .ref o0]) d_TrustDeskModel_part_0_64 lV_TrustDeskModel_291 b224 rfl (tc_TrustDeskModel_wantSign_x (d := (d + 7)) (x9 := x9) (o0 := o0) (x1 := 93) t216 R213 E217.1 (by have := R213.1 15 _ _ rfl; have := R213.1 16 _ _ rfl; have := R213.1 19 _ _ rfl; have := E217.f yS; omega) I211.start) rfl (Nat.le_of_ble_eq_true rfl) (Nat.le_of_ble_eq_true rfl) (Nat.le_of_ble_eq_true rfl) (hst := rfl) (fun b218r M219 n220 b218 => ?_)
              obtain ⟨T221, J222, rfl, R225, f226⟩ := b218
              have I223 := I211.call J222 (tm_sub (by decide)) (Or.inl rfl)
              have t227 := J222.up t216
              have := (rv_c I211 J222 (I211.up h_o0) (k := 22) rfl)
              have E228 : rE M0 M219 o0 1 (i1_1.toInt + 2) := E217.trans f226 (by decide) (yR.2 5 _ _ rfl 44).1 (by decide) (by omega)
              have := f226.w
              refine mv_aload_n d_TrustDeskModel_part_0_67 rfl rfl ?_
              refine mv_dup d_TrustDeskModel_part_0_68 rfl ?_
              obtain ⟨v230, q229⟩ := tm_atI I223 t227 (k := 22) rfl
              refine tr_getK q229 d_TrustDeskModel_part_0_69 f_TrustDeskModel_276_13 ?_
              have := tm_rv q229
              refine mv_iconst (v := 1) d_TrustDeskModel_part_0_72 (by decide) ?_
              refine mv_isub d_TrustDeskModel_part_0_73 ?_
              have : rv M219 o0 19 = 0 → (v230 - 1 : Int32).toInt = v230.toInt - 1 := fun h9 => mz_sub2 rfl (by decide) (by omega) (by omega)
              refine tr_putR (k := 22) I223 R225 t227 rfl ⟨_, rfl⟩ (fun _ h => by cases h) rfl (fun lo hi h => by cases h) (Or.inl (by decide)) d_TrustDeskModel_part_0_74 p_TrustDeskModel_276_13 rfl rfl (fun M231 I232 q233 K234 R235 A236 V237 => ?_)
              have := V237 16 (by decide)
              have := V237 17 (by decide)
              have := V237 19 (by decide)
              have := tm_rv q233
              have E238 : rE M0 M231 o0 1 (i1_1.toInt + 2) := E228.same (fun k h1 h2 => V237 k (by omega)) (fun k h1 h2 => A236 k (by omega))
              refine mv_goto (tgt := 84) d_TrustDeskModel_part_0_77 (by decide) ?_
              refine mv_iload_n d_TrustDeskModel_part_0_84 rfl rfl ?_
              have := mz_hi i1_1
              refine mv_if_eqZ (tgt := 94) (a := i1_1.toInt) d_TrustDeskModel_part_0_85 (by decide) rfl (fun b239 => ?_) (fun b239 => ?_)
              · exact mv_vret d_TrustDeskModel_part_0_94 rfl ⟨_, I232, rfl, R235, E238.less (by omega), (by have := R235.1 15 _ _ rfl; have := R235.1 16 _ _ rfl; have := R235.1 19 _ _ rfl; have := E238.f yS; omega)⟩
              · refine mv_aload_n d_TrustDeskModel_part_0_88 rfl rfl ?_
                refine mv_bipush (v := (-9)) d_TrustDeskModel_part_0_89 (by decide) ?_
                obtain ⟨_, b246, -⟩ := I232.1 _ _ t227
                refine mv_callV (kc' := 0) (ks' := 0) (As := [.int (-9)]) (st9 := [.int (-9), .ref o0]) d_TrustDeskModel_part_0_91 lV_TrustDeskModel_279 b246 rfl (tc_TrustDeskModel_emits_x (d := (d + 8)) (x9 := x9) (o0 := o0) (x1 := (-9)) t227 R235 (by have := R235.1 15 _ _ rfl; have := R235.1 16 _ _ rfl; have := R235.1 19 _ _ rfl; have := E238.f yS; omega) (by decide) I232.start) rfl (Nat.le_of_ble_eq_true rfl) (Nat.le_of_ble_eq_true rfl) (Nat.le_of_ble_eq_true rfl) (hst := rfl) (fun b240r M241 n242 b240 => ?_)
                obtain ⟨T243, J244, rfl, R247, f248⟩ := b240
                have I245 := I232.call J244 (tm_sub (by decide)) (Or.inl rfl)
                have t249 := J244.up t227
                have := (rv_c I232 J244 (I232.up h_o0) (k := 16) rfl)
                have := (rv_c I232 J244 (I232.up h_o0) (k := 17) rfl)
                have := (rv_c I232 J244 (I232.up h_o0) (k := 19) rfl)
                have := (rv_c I232 J244 (I232.up h_o0) (k := 22) rfl)
                have E250 : rE M0 M241 o0 1 (i1_1.toInt + 1) := E238.emit f248 (rE_hv I232 J244 (I232.up h_o0) 15 19 (by decide)) (yR.2 5 _ _ rfl 44).1 (by decide) (Or.inr (Or.inl ⟨by decide, by decide, by decide⟩)) (by omega)
                have q251 := J244.keep t227 (by decide) q233
                exact mv_vret d_TrustDeskModel_part_0_94 rfl ⟨_, I245, rfl, R247, E250.less (by omega), (by have := R247.1 15 _ _ rfl; have := R247.1 16 _ _ rfl; have := R247.1 19 _ _ rfl; have := E250.f yS; omega)⟩
        · refine mv_aload_n d_TrustDeskModel_part_0_19 rfl rfl ?_
          obtain ⟨_, b258, -⟩ := I126.1 _ _ t133
          refine mv_callV (kc' := 0) (ks' := 0) (As := []) (st9 := [.ref o0]) d_TrustDeskModel_part_0_20 lV_TrustDeskModel_237 b258 rfl (tc_TrustDeskModel_next_x (d := (d + 8)) (x9 := x9) (o0 := o0) t133 R131 I126.start) rfl (Nat.le_of_ble_eq_true rfl) (Nat.le_of_ble_eq_true rfl) (Nat.le_of_ble_eq_true rfl) (hst := rfl) (fun b252r M253 n254 b252 => ?_)
          obtain ⟨T255, J256, rfl, R259, f260, f261⟩ := b252
          have I257 := I126.call J256 (tm_sub (by decide)) (Or.inl rfl)
          have t262 := J256.up t133
          have := (rv_c I126 J256 (I126.up h_o0) (k := 19) rfl)
          have := (rv_c I126 J256 (I126.up h_o0) (k := 22) rfl)
          have h264 : rv M122 o0 16 + 1 ≤ rv M122 o0 15 := (by have := R131.1 15 _ _ rfl; have := R131.1 16 _ _ rfl; have := R131.1 19 _ _ rfl; have := E134.f yS; omega)
          have E263 : rE M0 M253 o0 0 (i1_1.toInt + 1) := E134.next f260 f261 (rv_c I126 J256 (I126.up h_o0) (k := 19) rfl) (rE_ha I126 J256 (I126.up h_o0) (by decide)) (e := 1) h264 (by omega)
          have q265 := J256.keep t133 (by decide) q135
          refine mv_iload_n d_TrustDeskModel_part_0_23 rfl rfl ?_
          have := mz_hi i1_1
          refine mv_if_neZ (tgt := 31) (a := i1_1.toInt) d_TrustDeskModel_part_0_24 (by decide) rfl (fun b266 => ?_) (fun b266 => ?_)
          · refine mv_iconst (v := 0) d_TrustDeskModel_part_0_31 (by decide) ?_
            refine mv_istore_n (lv' := [(1, .int 0), (0, .ref o0)]) d_TrustDeskModel_part_0_32 rfl (by decide) rfl ?_
            refine mv_goto (tgt := 2) d_TrustDeskModel_part_0_33 (by decide) ?_
            have E267 : rE M0 M253 o0 0 0 := E263.less (by omega)
            exact (ih1 0 T255 M253 n254 I257 t262 (by have := R259.1 15 _ _ rfl; have := R259.1 16 _ _ rfl; have := R259.1 19 _ _ rfl; have := E267.f yS; first | omega | decide) (by have := R259.1 15 _ _ rfl; have := R259.1 16 _ _ rfl; have := R259.1 19 _ _ rfl; have := E267.f yS; first | omega | decide) (by have := R259.1 15 _ _ rfl; have := R259.1 16 _ _ rfl; have := R259.1 19 _ _ rfl; have := E267.f yS; first | omega | decide) R259 E267 (by have := R259.1 15 _ _ rfl; have := R259.1 16 _ _ rfl; have := R259.1 19 _ _ rfl; have := E267.f yS; omega))
          · refine mv_iconst (v := 1) d_TrustDeskModel_part_0_27 (by decide) ?_
            refine mv_goto (tgt := 32) d_TrustDeskModel_part_0_28 (by decide) ?_
            refine mv_istore_n (lv' := [(1, .int 1), (0, .ref o0)]) d_TrustDeskModel_part_0_32 rfl (by decide) rfl ?_
            refine mv_goto (tgt := 2) d_TrustDeskModel_part_0_33 (by decide) ?_
            have E268 : rE M0 M253 o0 0 1 := E263.less (by omega)
            exact (ih1 1 T255 M253 n254 I257 t262 (by have := R259.1 15 _ _ rfl; have := R259.1 16 _ _ rfl; have := R259.1 19 _ _ rfl; have := E268.f yS; first | omega | decide) (by have := R259.1 15 _ _ rfl; have := R259.1 16 _ _ rfl; have := R259.1 19 _ _ rfl; have := E268.f yS; first | omega | decide) (by have := R259.1 15 _ _ rfl; have := R259.1 16 _ _ rfl; have := R259.1 19 _ _ rfl; have := E268.f yS; first | omega | decide) R259 E268 (by have := R259.1 15 _ _ rfl; have := R259.1 16 _ _ rfl; have := R259.1 19 _ _ rfl; have := E268.f yS; omega))
  exact mv_less (Nat.zero_le _) (Nat.zero_le _) (L2_1 4294967296 0 T0 M0 n0 I0 h_o0 (by have := yR.1 15 _ _ rfl; have := yR.1 16 _ _ rfl; have := yR.1 19 _ _ rfl; have := yE0.f yS; first | omega | decide) (by have := yR.1 15 _ _ rfl; have := yR.1 16 _ _ rfl; have := yR.1 19 _ _ rfl; have := yE0.f yS; first | omega | decide) (by have := yR.1 15 _ _ rfl; have := yR.1 16 _ _ rfl; have := yR.1 19 _ _ rfl; have := yE0.f yS; first | omega | decide) yR yE0 (by have := yR.1 15 _ _ rfl; have := yR.1 16 _ _ rfl; have := yR.1 19 _ _ rfl; have := yE0.f yS; omega))
theorem d_TrustDeskModel_both_11 : decode kY_TrustDeskModel_both.2.1 11 = .ok (.aload_n 0, 1) := by decide +kernel
theorem d_TrustDeskModel_both_12 : decode kY_TrustDeskModel_both.2.1 12 = .ok (.ldc_w 310, 3) := by decide +kernel
theorem d_TrustDeskModel_both_15 : decode kY_TrustDeskModel_both.2.1 15 = .ok (.invokevirtual 244, 3) := by decide +kernel
def w_TrustDeskModel_isWord_s1_40_x : List Nat := []
theorem tc_TrustDeskModel_isWord_s1_40_x {g : mj_G} {l : Launch} {d : Nat} {T0 : tm_H} {M0 : mj_M} {n0 x9 : Nat} {o0 : Nat} (h_o0 : T0 o0 = some (0, 13, 0)) (yR : rI M0 o0) (I0 : tm_I tm_FT (tm_in w_TrustDeskModel_isWord_s1_40_x) x9 T0 M0 n0 T0 M0 n0) : mj_Met g l kY_TrustDeskModel_isWord (d + 4) [.ref o0, .ref 40] M0 n0 0 0 (tm_Q tm_FT (tm_in w_TrustDeskModel_isWord_s1_40_x) x9 T0 M0 n0 (fun r _ M => ∃ v : Int32, r = some (.int v) ∧ 0 ≤ v.toInt ∧ v.toInt ≤ 1 ∧ rI M o0 ∧ (v.toInt = 1 → rv M0 o0 17 = 3))) := by
  refine mj_enter (by decide) (Nat.le_of_ble_eq_true rfl) ?_
  refine mv_aload_n d_TrustDeskModel_isWord_0 rfl rfl ?_
  obtain ⟨v2, q1⟩ := tm_atI I0 h_o0 (k := 17) rfl
  refine tr_getK q1 d_TrustDeskModel_isWord_1 f_TrustDeskModel_198_13 ?_
  have := tm_rv q1
  refine mv_iconst (v := 3) d_TrustDeskModel_isWord_4 (by decide) ?_
  have := mz_hi v2
  refine mv_icmp_neZ (tgt := 24) (a := v2.toInt) (b := 3) d_TrustDeskModel_isWord_5 (by decide) rfl (by decide) (fun b3 => ?_) (fun b3 => ?_)
  · refine mv_iconst (v := 0) d_TrustDeskModel_isWord_24 (by decide) ?_
    exact mv_iret d_TrustDeskModel_isWord_25 rfl (by decide) ⟨_, I0, _, rfl, by decide, by decide, yR, (fun h => absurd h (by decide))⟩
  · refine mv_aload_n d_TrustDeskModel_isWord_8 rfl rfl ?_
    obtain ⟨v5, q4⟩ := tm_atI I0 h_o0 (k := 15) rfl
    refine tr_getK q4 d_TrustDeskModel_isWord_9 f_TrustDeskModel_192_13 ?_
    have := yR.f (k := 15) q4 rfl
    have := tm_rv q4
    refine mv_aload_n d_TrustDeskModel_isWord_12 rfl rfl ?_
    obtain ⟨v7, q6⟩ := tm_atI I0 h_o0 (k := 16) rfl
    refine tr_getK q6 d_TrustDeskModel_isWord_13 f_TrustDeskModel_195_13 ?_
    have := yR.f (k := 16) q6 rfl
    have := tm_rv q6
    refine mv_isub d_TrustDeskModel_isWord_16 ?_
    refine mv_aload_n d_TrustDeskModel_isWord_17 rfl rfl ?_
    refine mv_slenK (i := 30) (v := 3) d_TrustDeskModel_isWord_18 lV_TrustDeskModel_214 (by decide) rfl (by decide) (Nat.le_of_ble_eq_true rfl) ?_
    have b8 : (v5 - v7 : Int32).toInt = (v5.toInt - v7.toInt) := mz_sub2 rfl rfl (by have := yR.1 15 _ _ rfl; have := yR.1 16 _ _ rfl; have := yR.1 19 _ _ rfl; omega) (by have := yR.1 15 _ _ rfl; have := yR.1 16 _ _ rfl; have := yR.1 19 _ _ rfl; omega)
    have := mz_hi (v5 - v7)
    refine mv_icmp_eqZ (tgt := 26) (a := (v5 - v7).toInt) (b := 3) d_TrustDeskModel_isWord_21 (by decide) rfl (by decide) (fun b9 => ?_) (fun b9 => ?_)
    · refine mv_iconst (v := 0) d_TrustDeskModel_isWord_26 (by decide) ?_
      refine mv_istore_n (lv' := [(2, .int 0), (0, .ref o0), (1, .ref 40)]) d_TrustDeskModel_isWord_27 rfl (by decide) rfl ?_
      have L28_10 : ∀ (k : Nat) (i2_10 : Int32) (T_10 : tm_H) (M_10 : mj_M) (n_10 : Nat), tm_I tm_FT (tm_in w_TrustDeskModel_isWord_s1_40_x) x9 T0 M0 n0 T_10 M_10 n_10 → T_10 o0 = some (0, 13, 0) → 0 ≤ i2_10.toInt → rv M_10 o0 15 = rv M0 o0 15 → rv M_10 o0 16 = rv M0 o0 16 → i2_10.toInt ≤ 2147483646 → (rI M_10 o0) → 2147483647 - i2_10.toInt < (k : Int) → mj_V g l kY_TrustDeskModel_isWord (d + 4) 28 [(2, .int i2_10), (0, .ref o0), (1, .ref 40)] [] M_10 n_10 0 0 (tm_Q tm_FT (tm_in w_TrustDeskModel_isWord_s1_40_x) x9 T0 M0 n0 (fun r _ M => ∃ v : Int32, r = some (.int v) ∧ 0 ≤ v.toInt ∧ v.toInt ≤ 1 ∧ rI M o0 ∧ (v.toInt = 1 → rv M0 o0 17 = 3))) := by
        intro k10
        induction k10 with
        | zero =>
          intro i2_10 T_10 M_10 n_10 I_10 h_q0_10 iv0_10 iv1_10 iv2_10 iv3_10 kKR_10 hk10
          have := mz_hi i2_10
          have := kKR_10.1 15 _ _ rfl
          have := kKR_10.1 16 _ _ rfl
          have := kKR_10.1 19 _ _ rfl
          omega
        | succ k10 ih10 =>
          intro i2_10 T_10 M_10 n_10 I_10 h_q0_10 iv0_10 iv1_10 iv2_10 iv3_10 kKR_10 hk10
          refine mv_iload_n d_TrustDeskModel_isWord_28 rfl rfl ?_
          refine mv_aload_n d_TrustDeskModel_isWord_29 rfl rfl ?_
          refine mv_slenK (i := 30) (v := 3) d_TrustDeskModel_isWord_30 lV_TrustDeskModel_214 (by decide) rfl (by decide) (Nat.le_of_ble_eq_true rfl) ?_
          have := mz_hi i2_10
          refine mv_icmp_geZ (tgt := 63) (a := i2_10.toInt) (b := 3) d_TrustDeskModel_isWord_33 (by decide) rfl (by decide) (fun b11 => ?_) (fun b11 => ?_)
          · refine mv_iconst (v := 1) d_TrustDeskModel_isWord_63 (by decide) ?_
            exact mv_iret d_TrustDeskModel_isWord_64 rfl (by decide) ⟨_, I_10, _, rfl, by decide, by decide, kKR_10, (fun _ => by omega)⟩
          · refine mv_aload_n d_TrustDeskModel_isWord_36 rfl rfl ?_
            obtain ⟨a13, q12, t_a13⟩ := tm_atR I_10 h_q0_10 (k := 13) rfl
            refine tr_getK q12 d_TrustDeskModel_isWord_37 f_TrustDeskModel_44_13 ?_
            refine mv_aload_n d_TrustDeskModel_isWord_40 rfl rfl ?_
            obtain ⟨v15, q14⟩ := tm_atI I_10 h_q0_10 (k := 16) rfl
            refine tr_getK q14 d_TrustDeskModel_isWord_41 f_TrustDeskModel_195_13 ?_
            have := kKR_10.f (k := 16) q14 rfl
            have := tm_rv q14
            refine mv_iload_n d_TrustDeskModel_isWord_44 rfl rfl ?_
            refine mv_iadd d_TrustDeskModel_isWord_45 ?_
            have b16 : (v15 + i2_10 : Int32).toInt = (v15.toInt + i2_10.toInt) := mz_add2 rfl rfl (by have := kKR_10.1 15 _ _ rfl; have := kKR_10.1 16 _ _ rfl; have := kKR_10.1 19 _ _ rfl; omega) (by have := kKR_10.1 15 _ _ rfl; have := kKR_10.1 16 _ _ rfl; have := kKR_10.1 19 _ _ rfl; omega)
            refine tr_baldR (o := o0) (k := 13) I_10 q12 t_a13 (by decide) d_TrustDeskModel_isWord_46 (vp_in_iff.mpr (by have := kKR_10.1 15 _ _ rfl; have := kKR_10.1 16 _ _ rfl; have := kKR_10.1 19 _ _ rfl; omega)) (fun v17 e18 => ?_)
            have := kKR_10.a (k := 13) rfl ((v15 + i2_10) : Int32).toNatClampNeg
            refine mv_aload_n d_TrustDeskModel_isWord_47 rfl rfl ?_
            refine mv_iload_n d_TrustDeskModel_isWord_48 rfl rfl ?_
            refine mv_schN (i := 30) (N := 3) d_TrustDeskModel_isWord_49 lV_TrustDeskModel_220 (by decide) rfl rfl (by omega) (by omega) (Nat.le_of_ble_eq_true rfl) (fun v19 => ?_)
            have := mz_hi v17
            have := mz_hi v19
            refine mv_icmp_eqZ (tgt := 57) (a := v17.toInt) (b := v19.toInt) d_TrustDeskModel_isWord_52 (by decide) rfl rfl (fun b20 => ?_) (fun b20 => ?_)
            · refine mv_iinc (v := (i2_10 + 1)) (lv' := [(2, .int (i2_10 + 1)), (0, .ref o0), (1, .ref 40)]) d_TrustDeskModel_isWord_57 rfl rfl (by decide) rfl ?_
              refine mv_goto (tgt := 28) d_TrustDeskModel_isWord_60 (by decide) ?_
              have b21 : (i2_10 + 1).toInt = i2_10.toInt + 1 := mz_addn 1 1 (by decide) (by have := mz_lo i2_10; omega) (by have := mz_hi i2_10; omega)
              exact (ih10 (i2_10 + 1) T_10 M_10 n_10 I_10 h_q0_10 (by have := kKR_10.1 15 _ _ rfl; have := kKR_10.1 16 _ _ rfl; have := kKR_10.1 19 _ _ rfl; first | omega | decide) (by have := kKR_10.1 15 _ _ rfl; have := kKR_10.1 16 _ _ rfl; have := kKR_10.1 19 _ _ rfl; first | omega | decide) (by have := kKR_10.1 15 _ _ rfl; have := kKR_10.1 16 _ _ rfl; have := kKR_10.1 19 _ _ rfl; first | omega | decide) (by have := kKR_10.1 15 _ _ rfl; have := kKR_10.1 16 _ _ rfl; have := kKR_10.1 19 _ _ rfl; first | omega | decide) kKR_10 (by have := kKR_10.1 15 _ _ rfl; have := kKR_10.1 16 _ _ rfl; have := kKR_10.1 19 _ _ rfl; omega))
            · refine mv_iconst (v := 0) d_TrustDeskModel_isWord_55 (by decide) ?_
              exact mv_iret d_TrustDeskModel_isWord_56 rfl (by decide) ⟨_, I_10, _, rfl, by decide, by decide, kKR_10, (fun h => absurd h (by decide))⟩
      exact mv_less (Nat.zero_le _) (Nat.zero_le _) (L28_10 4294967296 0 T0 M0 n0 I0 h_o0 (by have := yR.1 15 _ _ rfl; have := yR.1 16 _ _ rfl; have := yR.1 19 _ _ rfl; first | omega | decide) (by have := yR.1 15 _ _ rfl; have := yR.1 16 _ _ rfl; have := yR.1 19 _ _ rfl; first | omega | decide) (by have := yR.1 15 _ _ rfl; have := yR.1 16 _ _ rfl; have := yR.1 19 _ _ rfl; first | omega | decide) (by have := yR.1 15 _ _ rfl; have := yR.1 16 _ _ rfl; have := yR.1 19 _ _ rfl; first | omega | decide) yR (by show (2147483647 - (0 : Int) : Int) < _; decide))
    · refine mv_iconst (v := 0) d_TrustDeskModel_isWord_24 (by decide) ?_
      exact mv_iret d_TrustDeskModel_isWord_25 rfl (by decide) ⟨_, I0, _, rfl, by decide, by decide, yR, (fun h => absurd h (by decide))⟩
theorem d_TrustDeskModel_both_18 : decode kY_TrustDeskModel_both.2.1 18 = .ok (.ifCond .eq 20, 3) := by decide +kernel
theorem d_TrustDeskModel_both_21 : decode kY_TrustDeskModel_both.2.1 21 = .ok (.aload_n 0, 1) := by decide +kernel
theorem d_TrustDeskModel_both_22 : decode kY_TrustDeskModel_both.2.1 22 = .ok (.invokevirtual 237, 3) := by decide +kernel
theorem d_TrustDeskModel_both_25 : decode kY_TrustDeskModel_both.2.1 25 = .ok (.aload_n 0, 1) := by decide +kernel
theorem d_TrustDeskModel_both_26 : decode kY_TrustDeskModel_both.2.1 26 = .ok (.invokevirtual 308, 3) := by decide +kernel
theorem d_TrustDeskModel_both_29 : decode kY_TrustDeskModel_both.2.1 29 = .ok (.aload_n 0, 1) := by decide +kernel
theorem d_TrustDeskModel_both_30 : decode kY_TrustDeskModel_both.2.1 30 = .ok (.bipush (-7), 2) := by decide +kernel
theorem d_TrustDeskModel_both_32 : decode kY_TrustDeskModel_both.2.1 32 = .ok (.invokevirtual 279, 3) := by decide +kernel
theorem d_TrustDeskModel_both_35 : decode kY_TrustDeskModel_both.2.1 35 = .ok (.goto (-31), 3) := by decide +kernel
def w_TrustDeskModel_both_q1_x : List Nat := [1315, 1316, 1317, 1318, 1319, 1320, 1322, 20004, 20005]
theorem tc_TrustDeskModel_both_q1_x {g : mj_G} {l : Launch} {d : Nat} {T0 : tm_H} {M0 : mj_M} {n0 x9 : Nat} {o0 : Nat} (h_o0 : T0 o0 = some (0, 13, 0)) (yR : rI M0 o0) (yT : rT M0 o0) (yS : rv M0 o0 19 = 0 → ra M0 o0 5 44 ≤ rv M0 o0 16) (yL : rv M0 o0 19 ≠ 0 ∨ (4 ≤ rv M0 o0 22 ∧ rv M0 o0 22 ≤ 4)) (I0 : tm_I tm_FT (tm_in w_TrustDeskModel_both_q1_x) x9 T0 M0 n0 T0 M0 n0) : mj_Met g l kY_TrustDeskModel_both (d + 11) [.ref o0] M0 n0 0 0 (tm_Q tm_FT (tm_in w_TrustDeskModel_both_q1_x) x9 T0 M0 n0 (fun r _ M => r = none ∧ rI M o0 ∧ (rE M0 M o0 1 0) ∧ (rv M o0 19 = 0 → rv M o0 22 = rv M0 o0 22))) := by
  refine mj_enter (by decide) (Nat.le_of_ble_eq_true rfl) ?_
  have yE0 := rE.rf yT
  refine mv_aload_n d_TrustDeskModel_both_0 rfl rfl ?_
  obtain ⟨_, b7, -⟩ := I0.1 _ _ h_o0
  refine mv_callV (kc' := 0) (ks' := 0) (As := []) (st9 := [.ref o0]) d_TrustDeskModel_both_1 lV_TrustDeskModel_308 b7 rfl (tc_TrustDeskModel_part_0_q1_x (d := d) (x9 := x9) (o0 := o0) h_o0 yR yE0.1 (by have := yR.1 15 _ _ rfl; have := yR.1 16 _ _ rfl; have := yR.1 19 _ _ rfl; have := yE0.f yS; omega) (by have := yR.1 15 _ _ rfl; have := yR.1 16 _ _ rfl; have := yR.1 19 _ _ rfl; have := yE0.f yS; omega) I0.start) rfl (Nat.le_of_ble_eq_true rfl) (Nat.le_of_ble_eq_true rfl) (Nat.le_of_ble_eq_true rfl) (hst := rfl) (fun b1r M2 n3 b1 => ?_)
  obtain ⟨T4, J5, rfl, R8, f9, f10⟩ := b1
  have I6 := I0.call J5 (tm_sub (by decide)) (Or.inl rfl)
  have t11 := J5.up h_o0
  have E12 : rE M0 M2 o0 1 0 := yE0.trans f9 (by decide) (yR.2 5 _ _ rfl 44).1 (by decide) (by decide)
  have := f9.w
  have L4_13 : ∀ (k : Nat) (T_13 : tm_H) (M_13 : mj_M) (n_13 : Nat), tm_I tm_FT (tm_in w_TrustDeskModel_both_q1_x) x9 T0 M0 n0 T_13 M_13 n_13 → T_13 o0 = some (0, 13, 0) → (rv M_13 o0 19 = 0 → rv M_13 o0 22 = rv M0 o0 22) → (rI M_13 o0) → (rE M0 M_13 o0 1 0) → 5 * (401 - rv M_13 o0 16) - rv M_13 o0 19 < (k : Int) → mj_V g l kY_TrustDeskModel_both (d + 11) 4 [(0, .ref o0)] [] M_13 n_13 0 0 (tm_Q tm_FT (tm_in w_TrustDeskModel_both_q1_x) x9 T0 M0 n0 (fun r _ M => r = none ∧ rI M o0 ∧ (rE M0 M o0 1 0) ∧ (rv M o0 19 = 0 → rv M o0 22 = rv M0 o0 22))) := by
    intro k13
    induction k13 with
    | zero =>
      intro T_13 M_13 n_13 I_13 h_q0_13 iv0_13 kKR_13 kKE_13 hk13
      have := kKR_13.1 15 _ _ rfl
      have := kKR_13.1 16 _ _ rfl
      have := kKR_13.1 19 _ _ rfl
      exfalso; omega
    | succ k13 ih13 =>
      intro T_13 M_13 n_13 I_13 h_q0_13 iv0_13 kKR_13 kKE_13 hk13
      have := kKE_13.f yS
      refine mv_aload_n d_TrustDeskModel_both_4 rfl rfl ?_
      obtain ⟨_, b14, -⟩ := I_13.1 _ _ h_q0_13
      refine mv_callV (kc1 := 0) (ks1 := 0) (kc' := 0) (ks' := 0) (As := []) (st9 := [.ref o0]) d_TrustDeskModel_both_5 lV_TrustDeskModel_230 b14 rfl (mj_enter (by decide) (Nat.le_of_ble_eq_true rfl) ?_) rfl (Nat.le_of_ble_eq_true rfl) (Nat.le_of_ble_eq_true rfl) (Nat.le_of_ble_eq_true rfl) (hst := rfl) (fun _ _ _ h => h)
      refine mv_aload_n d_TrustDeskModel_isWell_0 rfl rfl ?_
      obtain ⟨v16, q15⟩ := tm_atI I_13 h_q0_13 (k := 19) rfl
      refine tr_getK q15 d_TrustDeskModel_isWell_1 f_TrustDeskModel_224_13 ?_
      have := kKR_13.f (k := 19) q15 rfl
      have := tm_rv q15
      have := mz_hi v16
      refine mv_if_neZ (tgt := 11) (a := v16.toInt) d_TrustDeskModel_isWell_4 (by decide) rfl (fun b17 => ?_) (fun b17 => ?_)
      · refine mv_iconst (v := 0) d_TrustDeskModel_isWell_11 (by decide) ?_
        refine mv_iret d_TrustDeskModel_isWell_12 rfl (by decide) ?_
        refine mv_if_eq_t (tgt := 38) d_TrustDeskModel_both_8 (by decide) (by decide) ?_
        exact mv_vret d_TrustDeskModel_both_38 rfl ⟨_, I_13, rfl, kKR_13, kKE_13, (by have := kKR_13.1 15 _ _ rfl; have := kKR_13.1 16 _ _ rfl; have := kKR_13.1 19 _ _ rfl; have := kKE_13.f yS; omega)⟩
      · refine mv_iconst (v := 1) d_TrustDeskModel_isWell_7 (by decide) ?_
        refine mv_goto (tgt := 12) d_TrustDeskModel_isWell_8 (by decide) ?_
        refine mv_iret d_TrustDeskModel_isWell_12 rfl (by decide) ?_
        refine mv_if_eq_f (tgt := 38) d_TrustDeskModel_both_8 (by decide) (by decide) ?_
        refine mv_aload_n d_TrustDeskModel_both_11 rfl rfl ?_
        refine mv_ldcSw (id := 40) (tx := "and") d_TrustDeskModel_both_12 (List.mem_of_getElem? (i := 30) rfl) ?_
        obtain ⟨_, b24, -⟩ := I_13.1 _ _ h_q0_13
        refine mv_callV (kc' := 0) (ks' := 0) (As := [.ref 40]) (st9 := [.ref 40, .ref o0]) d_TrustDeskModel_both_15 lV_TrustDeskModel_244 b24 rfl (tc_TrustDeskModel_isWord_s1_40_x (d := (d + 6)) (x9 := x9) (o0 := o0) h_q0_13 kKR_13 I_13.start) rfl (Nat.le_of_ble_eq_true rfl) (Nat.le_of_ble_eq_true rfl) (Nat.le_of_ble_eq_true rfl) (hst := rfl) (fun b18r M19 n20 b18 => ?_)
        obtain ⟨T21, J22, v25, rfl, b26, b27, R28, f29⟩ := b18
        have I23 := I_13.call J22 (tm_sub (by decide)) (Or.inl rfl)
        have t30 := J22.up h_q0_13
        have := (rv_c I_13 J22 (I_13.up h_o0) (k := 16) rfl)
        have := (rv_c I_13 J22 (I_13.up h_o0) (k := 17) rfl)
        have := (rv_c I_13 J22 (I_13.up h_o0) (k := 19) rfl)
        have := (rv_c I_13 J22 (I_13.up h_o0) (k := 22) rfl)
        have E31 : rE M0 M19 o0 1 0 := kKE_13.same (rE_hv I_13 J22 (I_13.up h_o0) 15 19 (by decide)) (rE_ha I_13 J22 (I_13.up h_o0) (by decide))
        have q32 := J22.keep h_q0_13 (by decide) q15
        have := mz_hi v25
        refine mv_if_eqZ (tgt := 38) (a := v25.toInt) d_TrustDeskModel_both_18 (by decide) rfl (fun b33 => ?_) (fun b33 => ?_)
        · exact mv_vret d_TrustDeskModel_both_38 rfl ⟨_, I23, rfl, R28, E31, (by have := R28.1 15 _ _ rfl; have := R28.1 16 _ _ rfl; have := R28.1 19 _ _ rfl; have := E31.f yS; omega)⟩
        · refine mv_aload_n d_TrustDeskModel_both_21 rfl rfl ?_
          obtain ⟨_, b40, -⟩ := I23.1 _ _ t30
          refine mv_callV (kc' := 0) (ks' := 0) (As := []) (st9 := [.ref o0]) d_TrustDeskModel_both_22 lV_TrustDeskModel_237 b40 rfl (tc_TrustDeskModel_next_x (d := (d + 9)) (x9 := x9) (o0 := o0) t30 R28 I23.start) rfl (Nat.le_of_ble_eq_true rfl) (Nat.le_of_ble_eq_true rfl) (Nat.le_of_ble_eq_true rfl) (hst := rfl) (fun b34r M35 n36 b34 => ?_)
          obtain ⟨T37, J38, rfl, R41, f42, f43⟩ := b34
          have I39 := I23.call J38 (tm_sub (by decide)) (Or.inl rfl)
          have t44 := J38.up t30
          have := (rv_c I23 J38 (I23.up h_o0) (k := 19) rfl)
          have := (rv_c I23 J38 (I23.up h_o0) (k := 22) rfl)
          have h46 : rv M19 o0 16 + 1 ≤ rv M19 o0 15 := (by have := R28.1 15 _ _ rfl; have := R28.1 16 _ _ rfl; have := R28.1 19 _ _ rfl; have := E31.f yS; omega)
          have E45 : rE M0 M35 o0 1 1 := E31.next f42 f43 (rv_c I23 J38 (I23.up h_o0) (k := 19) rfl) (rE_ha I23 J38 (I23.up h_o0) (by decide)) (e := 1) h46 (by decide)
          have q47 := J38.keep t30 (by decide) q32
          refine mv_aload_n d_TrustDeskModel_both_25 rfl rfl ?_
          obtain ⟨_, b54, -⟩ := I39.1 _ _ t44
          refine mv_callV (kc' := 0) (ks' := 0) (As := []) (st9 := [.ref o0]) d_TrustDeskModel_both_26 lV_TrustDeskModel_308 b54 rfl (tc_TrustDeskModel_part_0_q1_x (d := d) (x9 := x9) (o0 := o0) t44 R41 E45.1 (by have := R41.1 15 _ _ rfl; have := R41.1 16 _ _ rfl; have := R41.1 19 _ _ rfl; have := E45.f yS; omega) (by have := R41.1 15 _ _ rfl; have := R41.1 16 _ _ rfl; have := R41.1 19 _ _ rfl; have := E45.f yS; omega) I39.start) rfl (Nat.le_of_ble_eq_true rfl) (Nat.le_of_ble_eq_true rfl) (Nat.le_of_ble_eq_true rfl) (hst := rfl) (fun b48r M49 n50 b48 => ?_)
          obtain ⟨T51, J52, rfl, R55, f56, f57⟩ := b48
          have I53 := I39.call J52 (tm_sub (by decide)) (Or.inl rfl)
          have t58 := J52.up t44
          have E59 : rE M0 M49 o0 2 1 := E45.trans f56 (by decide) (yR.2 5 _ _ rfl 44).1 (by decide) (by decide)
          have := f56.w
          refine mv_aload_n d_TrustDeskModel_both_29 rfl rfl ?_
          refine mv_bipush (v := (-7)) d_TrustDeskModel_both_30 (by decide) ?_
          obtain ⟨_, b66, -⟩ := I53.1 _ _ t58
          refine mv_callV (kc' := 0) (ks' := 0) (As := [.int (-7)]) (st9 := [.int (-7), .ref o0]) d_TrustDeskModel_both_32 lV_TrustDeskModel_279 b66 rfl (tc_TrustDeskModel_emits_x (d := (d + 9)) (x9 := x9) (o0 := o0) (x1 := (-7)) t58 R55 (by have := R55.1 15 _ _ rfl; have := R55.1 16 _ _ rfl; have := R55.1 19 _ _ rfl; have := E59.f yS; omega) (by decide) I53.start) rfl (Nat.le_of_ble_eq_true rfl) (Nat.le_of_ble_eq_true rfl) (Nat.le_of_ble_eq_true rfl) (hst := rfl) (fun b60r M61 n62 b60 => ?_)
          obtain ⟨T63, J64, rfl, R67, f68⟩ := b60
          have I65 := I53.call J64 (tm_sub (by decide)) (Or.inl rfl)
          have t69 := J64.up t58
          have := (rv_c I53 J64 (I53.up h_o0) (k := 16) rfl)
          have := (rv_c I53 J64 (I53.up h_o0) (k := 17) rfl)
          have := (rv_c I53 J64 (I53.up h_o0) (k := 19) rfl)
          have := (rv_c I53 J64 (I53.up h_o0) (k := 22) rfl)
          have E70 : rE M0 M61 o0 1 0 := E59.emit f68 (rE_hv I53 J64 (I53.up h_o0) 15 19 (by decide)) (yR.2 5 _ _ rfl 44).1 (by decide) (Or.inr (Or.inr ⟨by decide, by decide, by decide, by decide⟩)) (by decide)
          refine mv_goto (tgt := 4) d_TrustDeskModel_both_35 (by decide) ?_
          exact (ih13 T63 M61 n62 I65 t69 (by have := R67.1 15 _ _ rfl; have := R67.1 16 _ _ rfl; have := R67.1 19 _ _ rfl; have := E70.f yS; first | omega | decide) R67 E70 (by have := R67.1 15 _ _ rfl; have := R67.1 16 _ _ rfl; have := R67.1 19 _ _ rfl; have := E70.f yS; omega))
  exact mv_less (Nat.zero_le _) (Nat.zero_le _) (L4_13 4294967296 T4 M2 n3 I6 t11 (by have := R8.1 15 _ _ rfl; have := R8.1 16 _ _ rfl; have := R8.1 19 _ _ rfl; have := E12.f yS; first | omega | decide) R8 E12 (by have := R8.1 15 _ _ rfl; have := R8.1 16 _ _ rfl; have := R8.1 19 _ _ rfl; have := E12.f yS; omega))
theorem d_TrustDeskModel_cond_11 : decode kY_TrustDeskModel_cond.2.1 11 = .ok (.aload_n 0, 1) := by decide +kernel
theorem d_TrustDeskModel_cond_12 : decode kY_TrustDeskModel_cond.2.1 12 = .ok (.ldc_w 315, 3) := by decide +kernel
theorem d_TrustDeskModel_cond_15 : decode kY_TrustDeskModel_cond.2.1 15 = .ok (.invokevirtual 244, 3) := by decide +kernel
def w_TrustDeskModel_isWord_s1_41_x : List Nat := []
theorem tc_TrustDeskModel_isWord_s1_41_x {g : mj_G} {l : Launch} {d : Nat} {T0 : tm_H} {M0 : mj_M} {n0 x9 : Nat} {o0 : Nat} (h_o0 : T0 o0 = some (0, 13, 0)) (yR : rI M0 o0) (I0 : tm_I tm_FT (tm_in w_TrustDeskModel_isWord_s1_41_x) x9 T0 M0 n0 T0 M0 n0) : mj_Met g l kY_TrustDeskModel_isWord (d + 4) [.ref o0, .ref 41] M0 n0 0 0 (tm_Q tm_FT (tm_in w_TrustDeskModel_isWord_s1_41_x) x9 T0 M0 n0 (fun r _ M => ∃ v : Int32, r = some (.int v) ∧ 0 ≤ v.toInt ∧ v.toInt ≤ 1 ∧ rI M o0 ∧ (v.toInt = 1 → rv M0 o0 17 = 3))) := by
  refine mj_enter (by decide) (Nat.le_of_ble_eq_true rfl) ?_
  refine mv_aload_n d_TrustDeskModel_isWord_0 rfl rfl ?_
  obtain ⟨v2, q1⟩ := tm_atI I0 h_o0 (k := 17) rfl
  refine tr_getK q1 d_TrustDeskModel_isWord_1 f_TrustDeskModel_198_13 ?_
  have := tm_rv q1
  refine mv_iconst (v := 3) d_TrustDeskModel_isWord_4 (by decide) ?_
  have := mz_hi v2
  refine mv_icmp_neZ (tgt := 24) (a := v2.toInt) (b := 3) d_TrustDeskModel_isWord_5 (by decide) rfl (by decide) (fun b3 => ?_) (fun b3 => ?_)
  · refine mv_iconst (v := 0) d_TrustDeskModel_isWord_24 (by decide) ?_
    exact mv_iret d_TrustDeskModel_isWord_25 rfl (by decide) ⟨_, I0, _, rfl, by decide, by decide, yR, (fun h => absurd h (by decide))⟩
  · refine mv_aload_n d_TrustDeskModel_isWord_8 rfl rfl ?_
    obtain ⟨v5, q4⟩ := tm_atI I0 h_o0 (k := 15) rfl
    refine tr_getK q4 d_TrustDeskModel_isWord_9 f_TrustDeskModel_192_13 ?_
    have := yR.f (k := 15) q4 rfl
    have := tm_rv q4
    refine mv_aload_n d_TrustDeskModel_isWord_12 rfl rfl ?_
    obtain ⟨v7, q6⟩ := tm_atI I0 h_o0 (k := 16) rfl
    refine tr_getK q6 d_TrustDeskModel_isWord_13 f_TrustDeskModel_195_13 ?_
    have := yR.f (k := 16) q6 rfl
    have := tm_rv q6
    refine mv_isub d_TrustDeskModel_isWord_16 ?_
    refine mv_aload_n d_TrustDeskModel_isWord_17 rfl rfl ?_
    refine mv_slenK (i := 31) (v := 2) d_TrustDeskModel_isWord_18 lV_TrustDeskModel_214 (by decide) rfl (by decide) (Nat.le_of_ble_eq_true rfl) ?_
    have b8 : (v5 - v7 : Int32).toInt = (v5.toInt - v7.toInt) := mz_sub2 rfl rfl (by have := yR.1 15 _ _ rfl; have := yR.1 16 _ _ rfl; have := yR.1 19 _ _ rfl; omega) (by have := yR.1 15 _ _ rfl; have := yR.1 16 _ _ rfl; have := yR.1 19 _ _ rfl; omega)
    have := mz_hi (v5 - v7)
    refine mv_icmp_eqZ (tgt := 26) (a := (v5 - v7).toInt) (b := 2) d_TrustDeskModel_isWord_21 (by decide) rfl (by decide) (fun b9 => ?_) (fun b9 => ?_)
    · refine mv_iconst (v := 0) d_TrustDeskModel_isWord_26 (by decide) ?_
      refine mv_istore_n (lv' := [(2, .int 0), (0, .ref o0), (1, .ref 41)]) d_TrustDeskModel_isWord_27 rfl (by decide) rfl ?_
      have L28_10 : ∀ (k : Nat) (i2_10 : Int32) (T_10 : tm_H) (M_10 : mj_M) (n_10 : Nat), tm_I tm_FT (tm_in w_TrustDeskModel_isWord_s1_41_x) x9 T0 M0 n0 T_10 M_10 n_10 → T_10 o0 = some (0, 13, 0) → 0 ≤ i2_10.toInt → rv M_10 o0 15 = rv M0 o0 15 → rv M_10 o0 16 = rv M0 o0 16 → i2_10.toInt ≤ 2147483646 → (rI M_10 o0) → 2147483647 - i2_10.toInt < (k : Int) → mj_V g l kY_TrustDeskModel_isWord (d + 4) 28 [(2, .int i2_10), (0, .ref o0), (1, .ref 41)] [] M_10 n_10 0 0 (tm_Q tm_FT (tm_in w_TrustDeskModel_isWord_s1_41_x) x9 T0 M0 n0 (fun r _ M => ∃ v : Int32, r = some (.int v) ∧ 0 ≤ v.toInt ∧ v.toInt ≤ 1 ∧ rI M o0 ∧ (v.toInt = 1 → rv M0 o0 17 = 3))) := by
        intro k10
        induction k10 with
        | zero =>
          intro i2_10 T_10 M_10 n_10 I_10 h_q0_10 iv0_10 iv1_10 iv2_10 iv3_10 kKR_10 hk10
          have := mz_hi i2_10
          have := kKR_10.1 15 _ _ rfl
          have := kKR_10.1 16 _ _ rfl
          have := kKR_10.1 19 _ _ rfl
          omega
        | succ k10 ih10 =>
          intro i2_10 T_10 M_10 n_10 I_10 h_q0_10 iv0_10 iv1_10 iv2_10 iv3_10 kKR_10 hk10
          refine mv_iload_n d_TrustDeskModel_isWord_28 rfl rfl ?_
          refine mv_aload_n d_TrustDeskModel_isWord_29 rfl rfl ?_
          refine mv_slenK (i := 31) (v := 2) d_TrustDeskModel_isWord_30 lV_TrustDeskModel_214 (by decide) rfl (by decide) (Nat.le_of_ble_eq_true rfl) ?_
          have := mz_hi i2_10
          refine mv_icmp_geZ (tgt := 63) (a := i2_10.toInt) (b := 2) d_TrustDeskModel_isWord_33 (by decide) rfl (by decide) (fun b11 => ?_) (fun b11 => ?_)
          · refine mv_iconst (v := 1) d_TrustDeskModel_isWord_63 (by decide) ?_
            exact mv_iret d_TrustDeskModel_isWord_64 rfl (by decide) ⟨_, I_10, _, rfl, by decide, by decide, kKR_10, (fun _ => by omega)⟩
          · refine mv_aload_n d_TrustDeskModel_isWord_36 rfl rfl ?_
            obtain ⟨a13, q12, t_a13⟩ := tm_atR I_10 h_q0_10 (k := 13) rfl
            refine tr_getK q12 d_TrustDeskModel_isWord_37 f_TrustDeskModel_44_13 ?_
            refine mv_aload_n d_TrustDeskModel_isWord_40 rfl rfl ?_
            obtain ⟨v15, q14⟩ := tm_atI I_10 h_q0_10 (k := 16) rfl
            refine tr_getK q14 d_TrustDeskModel_isWord_41 f_TrustDeskModel_195_13 ?_
            have := kKR_10.f (k := 16) q14 rfl
            have := tm_rv q14
            refine mv_iload_n d_TrustDeskModel_isWord_44 rfl rfl ?_
            refine mv_iadd d_TrustDeskModel_isWord_45 ?_
            have b16 : (v15 + i2_10 : Int32).toInt = (v15.toInt + i2_10.toInt) := mz_add2 rfl rfl (by have := kKR_10.1 15 _ _ rfl; have := kKR_10.1 16 _ _ rfl; have := kKR_10.1 19 _ _ rfl; omega) (by have := kKR_10.1 15 _ _ rfl; have := kKR_10.1 16 _ _ rfl; have := kKR_10.1 19 _ _ rfl; omega)
            refine tr_baldR (o := o0) (k := 13) I_10 q12 t_a13 (by decide) d_TrustDeskModel_isWord_46 (vp_in_iff.mpr (by have := kKR_10.1 15 _ _ rfl; have := kKR_10.1 16 _ _ rfl; have := kKR_10.1 19 _ _ rfl; omega)) (fun v17 e18 => ?_)
            have := kKR_10.a (k := 13) rfl ((v15 + i2_10) : Int32).toNatClampNeg
            refine mv_aload_n d_TrustDeskModel_isWord_47 rfl rfl ?_
            refine mv_iload_n d_TrustDeskModel_isWord_48 rfl rfl ?_
            refine mv_schN (i := 31) (N := 2) d_TrustDeskModel_isWord_49 lV_TrustDeskModel_220 (by decide) rfl rfl (by omega) (by omega) (Nat.le_of_ble_eq_true rfl) (fun v19 => ?_)
            have := mz_hi v17
            have := mz_hi v19
            refine mv_icmp_eqZ (tgt := 57) (a := v17.toInt) (b := v19.toInt) d_TrustDeskModel_isWord_52 (by decide) rfl rfl (fun b20 => ?_) (fun b20 => ?_)
            · refine mv_iinc (v := (i2_10 + 1)) (lv' := [(2, .int (i2_10 + 1)), (0, .ref o0), (1, .ref 41)]) d_TrustDeskModel_isWord_57 rfl rfl (by decide) rfl ?_
              refine mv_goto (tgt := 28) d_TrustDeskModel_isWord_60 (by decide) ?_
              have b21 : (i2_10 + 1).toInt = i2_10.toInt + 1 := mz_addn 1 1 (by decide) (by have := mz_lo i2_10; omega) (by have := mz_hi i2_10; omega)
              exact (ih10 (i2_10 + 1) T_10 M_10 n_10 I_10 h_q0_10 (by have := kKR_10.1 15 _ _ rfl; have := kKR_10.1 16 _ _ rfl; have := kKR_10.1 19 _ _ rfl; first | omega | decide) (by have := kKR_10.1 15 _ _ rfl; have := kKR_10.1 16 _ _ rfl; have := kKR_10.1 19 _ _ rfl; first | omega | decide) (by have := kKR_10.1 15 _ _ rfl; have := kKR_10.1 16 _ _ rfl; have := kKR_10.1 19 _ _ rfl; first | omega | decide) (by have := kKR_10.1 15 _ _ rfl; have := kKR_10.1 16 _ _ rfl; have := kKR_10.1 19 _ _ rfl; first | omega | decide) kKR_10 (by have := kKR_10.1 15 _ _ rfl; have := kKR_10.1 16 _ _ rfl; have := kKR_10.1 19 _ _ rfl; omega))
            · refine mv_iconst (v := 0) d_TrustDeskModel_isWord_55 (by decide) ?_
              exact mv_iret d_TrustDeskModel_isWord_56 rfl (by decide) ⟨_, I_10, _, rfl, by decide, by decide, kKR_10, (fun h => absurd h (by decide))⟩
      exact mv_less (Nat.zero_le _) (Nat.zero_le _) (L28_10 4294967296 0 T0 M0 n0 I0 h_o0 (by have := yR.1 15 _ _ rfl; have := yR.1 16 _ _ rfl; have := yR.1 19 _ _ rfl; first | omega | decide) (by have := yR.1 15 _ _ rfl; have := yR.1 16 _ _ rfl; have := yR.1 19 _ _ rfl; first | omega | decide) (by have := yR.1 15 _ _ rfl; have := yR.1 16 _ _ rfl; have := yR.1 19 _ _ rfl; first | omega | decide) (by have := yR.1 15 _ _ rfl; have := yR.1 16 _ _ rfl; have := yR.1 19 _ _ rfl; first | omega | decide) yR (by show (2147483647 - (0 : Int) : Int) < _; decide))
    · refine mv_iconst (v := 0) d_TrustDeskModel_isWord_24 (by decide) ?_
      exact mv_iret d_TrustDeskModel_isWord_25 rfl (by decide) ⟨_, I0, _, rfl, by decide, by decide, yR, (fun h => absurd h (by decide))⟩
theorem d_TrustDeskModel_cond_18 : decode kY_TrustDeskModel_cond.2.1 18 = .ok (.ifCond .eq 20, 3) := by decide +kernel
theorem d_TrustDeskModel_cond_21 : decode kY_TrustDeskModel_cond.2.1 21 = .ok (.aload_n 0, 1) := by decide +kernel
theorem d_TrustDeskModel_cond_22 : decode kY_TrustDeskModel_cond.2.1 22 = .ok (.invokevirtual 237, 3) := by decide +kernel
theorem d_TrustDeskModel_cond_25 : decode kY_TrustDeskModel_cond.2.1 25 = .ok (.aload_n 0, 1) := by decide +kernel
theorem d_TrustDeskModel_cond_26 : decode kY_TrustDeskModel_cond.2.1 26 = .ok (.invokevirtual 312, 3) := by decide +kernel
theorem d_TrustDeskModel_cond_29 : decode kY_TrustDeskModel_cond.2.1 29 = .ok (.aload_n 0, 1) := by decide +kernel
theorem d_TrustDeskModel_cond_30 : decode kY_TrustDeskModel_cond.2.1 30 = .ok (.bipush (-8), 2) := by decide +kernel
theorem d_TrustDeskModel_cond_32 : decode kY_TrustDeskModel_cond.2.1 32 = .ok (.invokevirtual 279, 3) := by decide +kernel
theorem d_TrustDeskModel_cond_35 : decode kY_TrustDeskModel_cond.2.1 35 = .ok (.goto (-31), 3) := by decide +kernel
def w_TrustDeskModel_cond_q1_x : List Nat := [1315, 1316, 1317, 1318, 1319, 1320, 1322, 20004, 20005]
theorem tc_TrustDeskModel_cond_q1_x {g : mj_G} {l : Launch} {d : Nat} {T0 : tm_H} {M0 : mj_M} {n0 x9 : Nat} {o0 : Nat} (h_o0 : T0 o0 = some (0, 13, 0)) (yR : rI M0 o0) (yT : rT M0 o0) (yS : rv M0 o0 19 = 0 → ra M0 o0 5 44 ≤ rv M0 o0 16) (yL : rv M0 o0 19 ≠ 0 ∨ (4 ≤ rv M0 o0 22 ∧ rv M0 o0 22 ≤ 4)) (I0 : tm_I tm_FT (tm_in w_TrustDeskModel_cond_q1_x) x9 T0 M0 n0 T0 M0 n0) : mj_Met g l kY_TrustDeskModel_cond (d + 12) [.ref o0] M0 n0 0 0 (tm_Q tm_FT (tm_in w_TrustDeskModel_cond_q1_x) x9 T0 M0 n0 (fun r _ M => r = none ∧ rI M o0 ∧ (rE M0 M o0 1 0) ∧ (rv M o0 19 = 0 → rv M o0 22 = rv M0 o0 22))) := by
  refine mj_enter (by decide) (Nat.le_of_ble_eq_true rfl) ?_
  have yE0 := rE.rf yT
  refine mv_aload_n d_TrustDeskModel_cond_0 rfl rfl ?_
  obtain ⟨_, b7, -⟩ := I0.1 _ _ h_o0
  refine mv_callV (kc' := 0) (ks' := 0) (As := []) (st9 := [.ref o0]) d_TrustDeskModel_cond_1 lV_TrustDeskModel_312 b7 rfl (tc_TrustDeskModel_both_q1_x (d := d) (x9 := x9) (o0 := o0) h_o0 yR yE0.1 (by have := yR.1 15 _ _ rfl; have := yR.1 16 _ _ rfl; have := yR.1 19 _ _ rfl; have := yE0.f yS; omega) (by have := yR.1 15 _ _ rfl; have := yR.1 16 _ _ rfl; have := yR.1 19 _ _ rfl; have := yE0.f yS; omega) I0.start) rfl (Nat.le_of_ble_eq_true rfl) (Nat.le_of_ble_eq_true rfl) (Nat.le_of_ble_eq_true rfl) (hst := rfl) (fun b1r M2 n3 b1 => ?_)
  obtain ⟨T4, J5, rfl, R8, f9, f10⟩ := b1
  have I6 := I0.call J5 (tm_sub (by decide)) (Or.inl rfl)
  have t11 := J5.up h_o0
  have E12 : rE M0 M2 o0 1 0 := yE0.trans f9 (by decide) (yR.2 5 _ _ rfl 44).1 (by decide) (by decide)
  have := f9.w
  have L4_13 : ∀ (k : Nat) (T_13 : tm_H) (M_13 : mj_M) (n_13 : Nat), tm_I tm_FT (tm_in w_TrustDeskModel_cond_q1_x) x9 T0 M0 n0 T_13 M_13 n_13 → T_13 o0 = some (0, 13, 0) → (rv M_13 o0 19 = 0 → rv M_13 o0 22 = rv M0 o0 22) → (rI M_13 o0) → (rE M0 M_13 o0 1 0) → 5 * (401 - rv M_13 o0 16) - rv M_13 o0 19 < (k : Int) → mj_V g l kY_TrustDeskModel_cond (d + 12) 4 [(0, .ref o0)] [] M_13 n_13 0 0 (tm_Q tm_FT (tm_in w_TrustDeskModel_cond_q1_x) x9 T0 M0 n0 (fun r _ M => r = none ∧ rI M o0 ∧ (rE M0 M o0 1 0) ∧ (rv M o0 19 = 0 → rv M o0 22 = rv M0 o0 22))) := by
    intro k13
    induction k13 with
    | zero =>
      intro T_13 M_13 n_13 I_13 h_q0_13 iv0_13 kKR_13 kKE_13 hk13
      have := kKR_13.1 15 _ _ rfl
      have := kKR_13.1 16 _ _ rfl
      have := kKR_13.1 19 _ _ rfl
      exfalso; omega
    | succ k13 ih13 =>
      intro T_13 M_13 n_13 I_13 h_q0_13 iv0_13 kKR_13 kKE_13 hk13
      have := kKE_13.f yS
      refine mv_aload_n d_TrustDeskModel_cond_4 rfl rfl ?_
      obtain ⟨_, b14, -⟩ := I_13.1 _ _ h_q0_13
      refine mv_callV (kc1 := 0) (ks1 := 0) (kc' := 0) (ks' := 0) (As := []) (st9 := [.ref o0]) d_TrustDeskModel_cond_5 lV_TrustDeskModel_230 b14 rfl (mj_enter (by decide) (Nat.le_of_ble_eq_true rfl) ?_) rfl (Nat.le_of_ble_eq_true rfl) (Nat.le_of_ble_eq_true rfl) (Nat.le_of_ble_eq_true rfl) (hst := rfl) (fun _ _ _ h => h)
      refine mv_aload_n d_TrustDeskModel_isWell_0 rfl rfl ?_
      obtain ⟨v16, q15⟩ := tm_atI I_13 h_q0_13 (k := 19) rfl
      refine tr_getK q15 d_TrustDeskModel_isWell_1 f_TrustDeskModel_224_13 ?_
      have := kKR_13.f (k := 19) q15 rfl
      have := tm_rv q15
      have := mz_hi v16
      refine mv_if_neZ (tgt := 11) (a := v16.toInt) d_TrustDeskModel_isWell_4 (by decide) rfl (fun b17 => ?_) (fun b17 => ?_)
      · refine mv_iconst (v := 0) d_TrustDeskModel_isWell_11 (by decide) ?_
        refine mv_iret d_TrustDeskModel_isWell_12 rfl (by decide) ?_
        refine mv_if_eq_t (tgt := 38) d_TrustDeskModel_cond_8 (by decide) (by decide) ?_
        exact mv_vret d_TrustDeskModel_cond_38 rfl ⟨_, I_13, rfl, kKR_13, kKE_13, (by have := kKR_13.1 15 _ _ rfl; have := kKR_13.1 16 _ _ rfl; have := kKR_13.1 19 _ _ rfl; have := kKE_13.f yS; omega)⟩
      · refine mv_iconst (v := 1) d_TrustDeskModel_isWell_7 (by decide) ?_
        refine mv_goto (tgt := 12) d_TrustDeskModel_isWell_8 (by decide) ?_
        refine mv_iret d_TrustDeskModel_isWell_12 rfl (by decide) ?_
        refine mv_if_eq_f (tgt := 38) d_TrustDeskModel_cond_8 (by decide) (by decide) ?_
        refine mv_aload_n d_TrustDeskModel_cond_11 rfl rfl ?_
        refine mv_ldcSw (id := 41) (tx := "or") d_TrustDeskModel_cond_12 (List.mem_of_getElem? (i := 31) rfl) ?_
        obtain ⟨_, b24, -⟩ := I_13.1 _ _ h_q0_13
        refine mv_callV (kc' := 0) (ks' := 0) (As := [.ref 41]) (st9 := [.ref 41, .ref o0]) d_TrustDeskModel_cond_15 lV_TrustDeskModel_244 b24 rfl (tc_TrustDeskModel_isWord_s1_41_x (d := (d + 7)) (x9 := x9) (o0 := o0) h_q0_13 kKR_13 I_13.start) rfl (Nat.le_of_ble_eq_true rfl) (Nat.le_of_ble_eq_true rfl) (Nat.le_of_ble_eq_true rfl) (hst := rfl) (fun b18r M19 n20 b18 => ?_)
        obtain ⟨T21, J22, v25, rfl, b26, b27, R28, f29⟩ := b18
        have I23 := I_13.call J22 (tm_sub (by decide)) (Or.inl rfl)
        have t30 := J22.up h_q0_13
        have := (rv_c I_13 J22 (I_13.up h_o0) (k := 16) rfl)
        have := (rv_c I_13 J22 (I_13.up h_o0) (k := 17) rfl)
        have := (rv_c I_13 J22 (I_13.up h_o0) (k := 19) rfl)
        have := (rv_c I_13 J22 (I_13.up h_o0) (k := 22) rfl)
        have E31 : rE M0 M19 o0 1 0 := kKE_13.same (rE_hv I_13 J22 (I_13.up h_o0) 15 19 (by decide)) (rE_ha I_13 J22 (I_13.up h_o0) (by decide))
        have q32 := J22.keep h_q0_13 (by decide) q15
        have := mz_hi v25
        refine mv_if_eqZ (tgt := 38) (a := v25.toInt) d_TrustDeskModel_cond_18 (by decide) rfl (fun b33 => ?_) (fun b33 => ?_)
        · exact mv_vret d_TrustDeskModel_cond_38 rfl ⟨_, I23, rfl, R28, E31, (by have := R28.1 15 _ _ rfl; have := R28.1 16 _ _ rfl; have := R28.1 19 _ _ rfl; have := E31.f yS; omega)⟩
        · refine mv_aload_n d_TrustDeskModel_cond_21 rfl rfl ?_
          obtain ⟨_, b40, -⟩ := I23.1 _ _ t30
          refine mv_callV (kc' := 0) (ks' := 0) (As := []) (st9 := [.ref o0]) d_TrustDeskModel_cond_22 lV_TrustDeskModel_237 b40 rfl (tc_TrustDeskModel_next_x (d := (d + 10)) (x9 := x9) (o0 := o0) t30 R28 I23.start) rfl (Nat.le_of_ble_eq_true rfl) (Nat.le_of_ble_eq_true rfl) (Nat.le_of_ble_eq_true rfl) (hst := rfl) (fun b34r M35 n36 b34 => ?_)
          obtain ⟨T37, J38, rfl, R41, f42, f43⟩ := b34
          have I39 := I23.call J38 (tm_sub (by decide)) (Or.inl rfl)
          have t44 := J38.up t30
          have := (rv_c I23 J38 (I23.up h_o0) (k := 19) rfl)
          have := (rv_c I23 J38 (I23.up h_o0) (k := 22) rfl)
          have h46 : rv M19 o0 16 + 1 ≤ rv M19 o0 15 := (by have := R28.1 15 _ _ rfl; have := R28.1 16 _ _ rfl; have := R28.1 19 _ _ rfl; have := E31.f yS; omega)
          have E45 : rE M0 M35 o0 1 1 := E31.next f42 f43 (rv_c I23 J38 (I23.up h_o0) (k := 19) rfl) (rE_ha I23 J38 (I23.up h_o0) (by decide)) (e := 1) h46 (by decide)
          have q47 := J38.keep t30 (by decide) q32
          refine mv_aload_n d_TrustDeskModel_cond_25 rfl rfl ?_
          obtain ⟨_, b54, -⟩ := I39.1 _ _ t44
          refine mv_callV (kc' := 0) (ks' := 0) (As := []) (st9 := [.ref o0]) d_TrustDeskModel_cond_26 lV_TrustDeskModel_312 b54 rfl (tc_TrustDeskModel_both_q1_x (d := d) (x9 := x9) (o0 := o0) t44 R41 E45.1 (by have := R41.1 15 _ _ rfl; have := R41.1 16 _ _ rfl; have := R41.1 19 _ _ rfl; have := E45.f yS; omega) (by have := R41.1 15 _ _ rfl; have := R41.1 16 _ _ rfl; have := R41.1 19 _ _ rfl; have := E45.f yS; omega) I39.start) rfl (Nat.le_of_ble_eq_true rfl) (Nat.le_of_ble_eq_true rfl) (Nat.le_of_ble_eq_true rfl) (hst := rfl) (fun b48r M49 n50 b48 => ?_)
          obtain ⟨T51, J52, rfl, R55, f56, f57⟩ := b48
          have I53 := I39.call J52 (tm_sub (by decide)) (Or.inl rfl)
          have t58 := J52.up t44
          have E59 : rE M0 M49 o0 2 1 := E45.trans f56 (by decide) (yR.2 5 _ _ rfl 44).1 (by decide) (by decide)
          have := f56.w
          refine mv_aload_n d_TrustDeskModel_cond_29 rfl rfl ?_
          refine mv_bipush (v := (-8)) d_TrustDeskModel_cond_30 (by decide) ?_
          obtain ⟨_, b66, -⟩ := I53.1 _ _ t58
          refine mv_callV (kc' := 0) (ks' := 0) (As := [.int (-8)]) (st9 := [.int (-8), .ref o0]) d_TrustDeskModel_cond_32 lV_TrustDeskModel_279 b66 rfl (tc_TrustDeskModel_emits_x (d := (d + 10)) (x9 := x9) (o0 := o0) (x1 := (-8)) t58 R55 (by have := R55.1 15 _ _ rfl; have := R55.1 16 _ _ rfl; have := R55.1 19 _ _ rfl; have := E59.f yS; omega) (by decide) I53.start) rfl (Nat.le_of_ble_eq_true rfl) (Nat.le_of_ble_eq_true rfl) (Nat.le_of_ble_eq_true rfl) (hst := rfl) (fun b60r M61 n62 b60 => ?_)
          obtain ⟨T63, J64, rfl, R67, f68⟩ := b60
          have I65 := I53.call J64 (tm_sub (by decide)) (Or.inl rfl)
          have t69 := J64.up t58
          have := (rv_c I53 J64 (I53.up h_o0) (k := 16) rfl)
          have := (rv_c I53 J64 (I53.up h_o0) (k := 17) rfl)
          have := (rv_c I53 J64 (I53.up h_o0) (k := 19) rfl)
          have := (rv_c I53 J64 (I53.up h_o0) (k := 22) rfl)
          have E70 : rE M0 M61 o0 1 0 := E59.emit f68 (rE_hv I53 J64 (I53.up h_o0) 15 19 (by decide)) (yR.2 5 _ _ rfl 44).1 (by decide) (Or.inr (Or.inr ⟨by decide, by decide, by decide, by decide⟩)) (by decide)
          refine mv_goto (tgt := 4) d_TrustDeskModel_cond_35 (by decide) ?_
          exact (ih13 T63 M61 n62 I65 t69 (by have := R67.1 15 _ _ rfl; have := R67.1 16 _ _ rfl; have := R67.1 19 _ _ rfl; have := E70.f yS; first | omega | decide) R67 E70 (by have := R67.1 15 _ _ rfl; have := R67.1 16 _ _ rfl; have := R67.1 19 _ _ rfl; have := E70.f yS; omega))
  exact mv_less (Nat.zero_le _) (Nat.zero_le _) (L4_13 4294967296 T4 M2 n3 I6 t11 (by have := R8.1 15 _ _ rfl; have := R8.1 16 _ _ rfl; have := R8.1 19 _ _ rfl; have := E12.f yS; first | omega | decide) R8 E12 (by have := R8.1 15 _ _ rfl; have := R8.1 16 _ _ rfl; have := R8.1 19 _ _ rfl; have := E12.f yS; omega))
